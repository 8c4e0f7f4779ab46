abbrev P_Mo_readOnce_90 (F : ov_H × ov_Z) (z : ov_Z) (h : ov_H) (n : Int) : Option ov_V → ov_Z → ov_H → Prop := fun r0 z' h' => r0 = none ∧ ov_N F z' h' ∧ ((h' 90 2) = (h 90 2) ∧ (h' 90 13) = (h 90 13) ∧ (h' 90 20) = (h 90 20) ∧ (h' 90 22) = (h 90 22) ∧ (h' 90 25) = (h 90 25) ∧ (h' 90 26) = (h 90 26) ∧ (h' 90 28) = (h 90 28) ∧ (h' 90 29) = (h 90 29) ∧ (h' 90 30) = (h 90 30) ∧ (h' 90 34) = (h 90 34) ∧ (h 90 7) ≤ (h' 90 7) ∧ (h' 90 7) ≤ n ∧ (h 90 13) ≤ (h' 90 13) ∧ (h' 90 13) - (h 90 13) ≤ (h' 90 7) - (h 90 7) ∧ (h' 96 340) = (h 96 340) ∧ (h' 96 341) = (h 96 341) ∧ ((h' 90 8) = 0 → 1 ≤ (h 96 342) → 1 ≤ (h' 96 342)) ∧ (1 ≤ (h 96 349) → 1 ≤ (h' 96 349))) ∧ h' 92 = h 92 ∧ h' 93 = h 93 ∧ h' 94 = h 94 ∧ h' 95 = h 95 ∧ h' 97 = h 97 ∧ h' 98 = h 98 ∧ h' 99 = h 99 ∧ h' 100 = h 100 ∧ h' 103 = h 103 ∧ h' 105 = h 105 ∧ h' 106 = h 106 ∧ h' 109 = h 109 ∧ h' 114 = h 114 ∧ (ov_MK (h 96) (h 97) (h 98) (h' 96) (h' 97) (h' 98)) ∧ (ov_WS (h 96) → ov_WS (h' 96)) ∧ ((h' 90 8) = 0 → ov_CS (h 96) (h 97) (h 98) (h 90 13) → ov_CS (h' 96) (h' 97) (h' 98) (h' 90 13))
set_option maxHeartbeats 4000000 in
theorem c_Mo_readOnce_90 {u : ov_U} {F : ov_H × ov_Z} (n : Int) {z : ov_Z} {h : ov_H} (d : Nat) (hd : 2 ≤ d) (U : ov_cap u) (I : ov_N F z h) (p0 : 0 ≤ n ∧ n ≤ 1000 ∧ (h 92 (n)) = 0 ∧ (h 90 7) ≤ n) (p1 : (h 90 13) ≤ (h 90 7)) (p2 : (h 90 8) = 0) (p3 : (h 90 7) < n) : ov_T u d ov_m233 [ov_r 90] z h (P_Mo_readOnce_90 F z h n) := by
  refine ov_en rfl (Nat.le_of_ble_eq_true rfl) ?_
  show ov_R u d ov_m233 0 [(0, ov_r 90)] [] z h (P_Mo_readOnce_90 F z h n)
  refine ov_blk (ls2 := [(0, ov_r 90)]) (st2 := [ov_i 5, ov_i 4, ov_r 90]) (pc2 := 3) b_233_0_3 rfl rfl ?_
  refine ov_cV (as := [ov_i 4, ov_i 5]) (st := []) (d2 := d - 1) d_233_3 lk_Mo_202 rfl (Nat.le_of_ble_eq_true rfl) (c := 1) (zb_90 I) (zs_90 I) ⟨by decide, rfl⟩ (by omega) (c_Mo_wordHere_90 n (d - 1) (by omega) U I 4 5 (by omega) (by omega) (by show 0 ≤ n ∧ n ≤ 1000 ∧ (h 92 (n)) = 0 ∧ (h 90 7) ≤ n; omega) (by omega)) ?_
  rintro _ _ _ ⟨v2, rfl, rfl, rfl, f1⟩
  show ov_R u d ov_m233 6 [(0, ov_r 90)] [ov_i v2] z h (P_Mo_readOnce_90 F z h n)
  have f3 : -1 ≤ v2 ∧ v2 < (5 : Int) ∧ (0 ≤ v2 → (h 90 7) < n ∧ (h 90 8) = 0) := f1
  clear f1
  refine ov_blk (ls2 := [(0, ov_r 90), (1, ov_i v2)]) (st2 := [ov_i v2]) (pc2 := 8) b_233_6_2 rfl rfl ?_
  refine ov_ifge (tgt := 19) d_233_8 (by decide) (by omega) (fun c4 => ?_) (fun c4 => ?_)
  · skip
    refine ov_blk (ls2 := [(0, ov_r 90), (1, ov_i v2)]) (st2 := [ov_r 90]) (pc2 := 20) b_233_19_1 rfl rfl ?_
    refine ov_getf (v := ov_i (h 90 15)) d_233_20 fl_Mo_211 (zb_90 I) (zs_90 I) rfl ?_
    have g5 := rg_90_15 I
    refine ov_blk (ls2 := [(0, ov_r 90), (1, ov_i v2)]) (st2 := [ov_i 1, ov_i (ov_and (ov_shr (h 90 15) v2) 1)]) (pc2 := 28) b_233_23_5 rfl rfl ?_
    have g6 := ov_shrg (h 90 15) v2
    have g7 := ov_andg (ov_shr (h 90 15) v2) 1
    have g8 := ov_and1 (ov_shr (h 90 15) v2)
    refine ov_icne (tgt := 36) d_233_28 (by decide) (by omega) (by omega) (fun c9 => ?_) (fun c9 => ?_)
    · skip
      refine ov_blk (ls2 := [(0, ov_r 90), (1, ov_i v2)]) (st2 := [ov_r 90]) (pc2 := 37) b_233_36_1 rfl rfl ?_
      refine ov_getf (v := ov_i (h 90 8)) d_233_37 fl_Mo_180 (zb_90 I) (zs_90 I) rfl ?_
      have g10 := rg_90_8 I
      refine ov_ifle (tgt := 44) d_233_40 (by decide) (by omega) (fun c11 => ?_) (fun c11 => ?_)
      · skip
        refine ov_blk (ls2 := [(0, ov_r 90), (1, ov_i v2)]) (st2 := [ov_r 90, ov_r 90]) (pc2 := 46) b_233_44_2 rfl rfl ?_
        refine ov_getf (v := ov_i (h 90 15)) d_233_46 fl_Mo_211 (zb_90 I) (zs_90 I) rfl ?_
        refine ov_blk (ls2 := [(0, ov_r 90), (1, ov_i v2)]) (st2 := [ov_i (ov_or (h 90 15) (ov_shl 1 v2)), ov_r 90]) (pc2 := 53) b_233_49_4 rfl rfl ?_
        have g13 := ov_shlg 1 v2
        have g14 := ov_org (h 90 15) (ov_shl 1 v2)
        refine ov_havw (fun w15 gw15 qw15 => ?_)
        refine ov_putf (x := w15) d_233_53 fl_Mo_211 (zb_90 I) (zs_90 I) rfl nk_0 rfl ?_
        have I16 := up_90_15 (x := w15) I (by omega)
        refine ov_blk (ls2 := [(0, ov_r 90), (1, ov_i v2)]) (st2 := [ov_r 90, ov_r 90]) (pc2 := 58) b_233_56_2 rfl rfl ?_
        refine ov_getf (v := ov_i (h 90 7)) d_233_58 fl_Mo_177 (zb_90 I16) (zs_90 I16) rfl ?_
        have g17 := rg_90_7 I
        refine ov_blk (ls2 := [(0, ov_r 90), (1, ov_i v2)]) (st2 := [ov_i ((h 90 7) + 1), ov_r 90]) (pc2 := 63) b_233_61_2 rfl rfl ?_
        refine ov_putf (x := ((h 90 7) + 1)) d_233_63 fl_Mo_177 (zb_90 I16) (zs_90 I16) rfl nk_0 rfl ?_
        have I18 := up_90_7 (x := ((h 90 7) + 1)) I16 (by omega)
        refine ov_blk (ls2 := [(0, ov_r 90), (1, ov_i v2)]) (st2 := [ov_r 90]) (pc2 := 67) b_233_66_1 rfl rfl ?_
        refine ov_getf (v := ov_r 96) d_233_67 fl_Mo_81 (zb_90 I18) (zs_90 I18) (congrArg ov_r (rg_90_10 I18)) ?_
        refine ov_blk (ls2 := [(0, ov_r 90), (1, ov_i v2)]) (st2 := [ov_i 4, ov_i v2, ov_i (342 + v2), ov_r 96]) (pc2 := 77) b_233_70_5 rfl rfl ?_
        refine ov_icne (tgt := 84) d_233_77 (by decide) (by omega) (by omega) (fun c19 => ?_) (fun c19 => ?_)
        · skip
          refine ov_blk (ls2 := [(0, ov_r 90), (1, ov_i v2)]) (st2 := [ov_i 3, ov_i v2, ov_i (342 + v2), ov_r 96]) (pc2 := 86) b_233_84_2 rfl rfl ?_
          refine ov_icne (tgt := 99) d_233_86 (by decide) (by omega) (by omega) (fun c20 => ?_) (fun c20 => ?_)
          · skip
            refine ov_blk (ls2 := [(0, ov_r 90), (1, ov_i v2)]) (st2 := [ov_i 30, ov_i 1, ov_r 90, ov_i (342 + v2), ov_r 96]) (pc2 := 103) b_233_99_3 rfl rfl ?_
            refine ov_cV (as := [ov_i 1, ov_i 30]) (st := [ov_i (342 + v2), ov_r 96]) (d2 := d - 1) d_233_103 lk_Mo_198 rfl (Nat.le_of_ble_eq_true rfl) (c := 1) (zb_90 I18) (zs_90 I18) ⟨by decide, rfl⟩ (by omega) (c_Mo_takeNumber_90 n (d - 1) (by omega) U I18 1 30 (by omega) (by omega) (by show 0 ≤ n ∧ n ≤ 1000 ∧ (h 92 (n)) = 0 ∧ ((h 90 7) + 1) ≤ n; omega)) ?_
            rintro _ z37 h38 ⟨v22, rfl, I39, f21, e23, e24, e25, e26, e27, e28, e29, e30, e31, e32, e33, e34, e35, e36⟩
            have E40 : h38 92 = h 92 := e23
            have E41 : h38 93 = h 93 := e24
            have E42 : h38 94 = h 94 := e25
            have E43 : h38 95 = h 95 := e26
            have E44 : h38 96 = h 96 := e27
            have E45 : h38 97 = h 97 := e28
            have E46 : h38 98 = h 98 := e29
            have E47 : h38 99 = h 99 := e30
            have E48 : h38 100 = h 100 := e31
            have E49 : h38 103 = h 103 := e32
            have E50 : h38 105 = h 105 := e33
            have E51 : h38 106 = h 106 := e34
            have E52 : h38 109 = h 109 := e35
            have E53 : h38 114 = h 114 := e36
            show ov_R u d ov_m233 106 [(0, ov_r 90), (1, ov_i v2)] [ov_i v22, ov_i (342 + v2), ov_r 96] z37 h38 (P_Mo_readOnce_90 F z h n)
            have f54 : (h38 90 2) = (h 90 2) ∧ (h38 90 13) = (h 90 13) ∧ (h38 90 20) = (h 90 20) ∧ (h38 90 22) = (h 90 22) ∧ (h38 90 25) = (h 90 25) ∧ (h38 90 26) = (h 90 26) ∧ (h38 90 28) = (h 90 28) ∧ (h38 90 29) = (h 90 29) ∧ (h38 90 30) = (h 90 30) ∧ (h38 90 34) = (h 90 34) ∧ ((h 90 7) + 1) ≤ (h38 90 7) ∧ (h38 90 7) ≤ n ∧ (h 90 8) ≤ (h38 90 8) ∧ ((h38 90 8) = 0 → (1 : Int) ≤ v22 ∧ v22 ≤ (30 : Int)) ∧ (0 < (h38 90 8) → v22 = 0) ∧ ((h 90 7) + 1) < (h38 90 7) + (h38 90 8) := f21
            clear f21
            refine ov_iast d_233_106 (zb_96 I39) (zs_96 I39) (by omega) ?_
            have I55 := ua_96 (k := (342 + v2)) (x := v22) I39 (by refine ⟨?_, ?_, ?_, ?_, ?_, ?_, ?_, ?_, ?_, ?_, ?_, ?_, ?_, ?_, ?_, ?_, ?_, ?_, ?_, ?_, ?_, ?_, ?_, ?_, ?_, ?_, ?_, ?_, ?_⟩ <;> omega)
            have R56 : ov_RD (h 96) (h 97) (h 98) (h 90 13) (h38 96) (h38 97) (h38 98) (h 90 13) := by rw [show h38 96 = h 96 from E44, show h38 97 = h 97 from E45, show h38 98 = h 98 from E46]; exact ov_RD_refl _ _ _ _
            have R57 : ov_RD (h 96) (h 97) (h 98) (h 90 13) ((ov_up h38 96 (342 + v2) v22) 96) ((ov_up h38 96 (342 + v2) v22) 97) ((ov_up h38 96 (342 + v2) v22) 98) (h 90 13) := by rw [ov_up_row]; exact ov_RD_w R56 (t96_348 I39).2 (by omega)
            have qo1 : ((342 + v2)) = 342 → ((ov_up h38 96 (342 + v2) v22) 96 342) = v22 := fun e => by rw [ov_up_row]; unfold ov_rs; rw [if_pos e.symm]
            have qo2 : ¬ ((342 + v2)) = 342 → ((ov_up h38 96 (342 + v2) v22) 96 342) = h38 96 342 := fun e => by rw [ov_up_j (fun q => e q.symm)]; try rfl
            have lt58 : ((ov_up h38 96 (342 + v2) v22) 96 340) = h38 96 340 := by try rw [ov_up_j (by omega)]; try rfl
            have lt59 : h38 96 340 = h 96 340 := congrFun E44 340
            have lt60 : ((ov_up h38 96 (342 + v2) v22) 96 341) = h38 96 341 := by try rw [ov_up_j (by omega)]; try rfl
            have lt61 : h38 96 341 = h 96 341 := congrFun E44 341
            have lt62 : ((ov_up h38 96 (342 + v2) v22) 96 348) = h38 96 348 := by try rw [ov_up_j (by omega)]; try rfl
            have lt63 : h38 96 348 = h 96 348 := congrFun E44 348
            have lt64 : ((ov_up h38 96 (342 + v2) v22) 96 349) = h38 96 349 := by try rw [ov_up_j (by omega)]; try rfl
            have lt65 : h38 96 349 = h 96 349 := congrFun E44 349
            have qo3 : h38 96 342 = h 96 342 := congrFun E44 342
            have cf66 : h38 96 340 = h 96 340 := congrFun E44 340
            have cf67 : h38 96 341 = h 96 341 := congrFun E44 341
            have cf68 : h38 96 342 = h 96 342 := congrFun E44 342
            have cf69 : h38 96 349 = h 96 349 := congrFun E44 349
            exact ov_retv (st := []) d_233_107 rfl ⟨rfl, I55, (by show (h38 90 2) = (h 90 2) ∧ (h38 90 13) = (h 90 13) ∧ (h38 90 20) = (h 90 20) ∧ (h38 90 22) = (h 90 22) ∧ (h38 90 25) = (h 90 25) ∧ (h38 90 26) = (h 90 26) ∧ (h38 90 28) = (h 90 28) ∧ (h38 90 29) = (h 90 29) ∧ (h38 90 30) = (h 90 30) ∧ (h38 90 34) = (h 90 34) ∧ (h 90 7) ≤ (h38 90 7) ∧ (h38 90 7) ≤ n ∧ (h 90 13) ≤ (h38 90 13) ∧ (h38 90 13) - (h 90 13) ≤ (h38 90 7) - (h 90 7) ∧ ((ov_up h38 96 (342 + v2) v22) 96 340) = (h 96 340) ∧ ((ov_up h38 96 (342 + v2) v22) 96 341) = (h 96 341) ∧ ((h38 90 8) = 0 → 1 ≤ (h 96 342) → 1 ≤ ((ov_up h38 96 (342 + v2) v22) 96 342)) ∧ (1 ≤ (h 96 349) → 1 ≤ ((ov_up h38 96 (342 + v2) v22) 96 349)); omega), E40, E41, E42, E43, E45, E46, E47, E48, E49, E50, E51, E52, E53, R57.1, R57.2.1, (fun _ w => by show ov_CS ((ov_up h38 96 (342 + v2) v22) 96) ((ov_up h38 96 (342 + v2) v22) 97) ((ov_up h38 96 (342 + v2) v22) 98) (h38 90 13); rw [show (h38 90 13) = h 90 13 by omega]; exact R57.2.2 w)⟩
          · skip
            refine ov_blk (ls2 := [(0, ov_r 90), (1, ov_i v2)]) (st2 := [ov_i 9, ov_i 0, ov_r 90, ov_i (342 + v2), ov_r 96]) (pc2 := 93) b_233_89_3 rfl rfl ?_
            refine ov_cV (as := [ov_i 0, ov_i 9]) (st := [ov_i (342 + v2), ov_r 96]) (d2 := d - 1) d_233_93 lk_Mo_198 rfl (Nat.le_of_ble_eq_true rfl) (c := 1) (zb_90 I18) (zs_90 I18) ⟨by decide, rfl⟩ (by omega) (c_Mo_takeNumber_90 n (d - 1) (by omega) U I18 0 9 (by omega) (by omega) (by show 0 ≤ n ∧ n ≤ 1000 ∧ (h 92 (n)) = 0 ∧ ((h 90 7) + 1) ≤ n; omega)) ?_
            rintro _ z86 h87 ⟨v71, rfl, I88, f70, e72, e73, e74, e75, e76, e77, e78, e79, e80, e81, e82, e83, e84, e85⟩
            have E89 : h87 92 = h 92 := e72
            have E90 : h87 93 = h 93 := e73
            have E91 : h87 94 = h 94 := e74
            have E92 : h87 95 = h 95 := e75
            have E93 : h87 96 = h 96 := e76
            have E94 : h87 97 = h 97 := e77
            have E95 : h87 98 = h 98 := e78
            have E96 : h87 99 = h 99 := e79
            have E97 : h87 100 = h 100 := e80
            have E98 : h87 103 = h 103 := e81
            have E99 : h87 105 = h 105 := e82
            have E100 : h87 106 = h 106 := e83
            have E101 : h87 109 = h 109 := e84
            have E102 : h87 114 = h 114 := e85
            show ov_R u d ov_m233 96 [(0, ov_r 90), (1, ov_i v2)] [ov_i v71, ov_i (342 + v2), ov_r 96] z86 h87 (P_Mo_readOnce_90 F z h n)
            have f103 : (h87 90 2) = (h 90 2) ∧ (h87 90 13) = (h 90 13) ∧ (h87 90 20) = (h 90 20) ∧ (h87 90 22) = (h 90 22) ∧ (h87 90 25) = (h 90 25) ∧ (h87 90 26) = (h 90 26) ∧ (h87 90 28) = (h 90 28) ∧ (h87 90 29) = (h 90 29) ∧ (h87 90 30) = (h 90 30) ∧ (h87 90 34) = (h 90 34) ∧ ((h 90 7) + 1) ≤ (h87 90 7) ∧ (h87 90 7) ≤ n ∧ (h 90 8) ≤ (h87 90 8) ∧ ((h87 90 8) = 0 → (0 : Int) ≤ v71 ∧ v71 ≤ (9 : Int)) ∧ (0 < (h87 90 8) → v71 = 0) ∧ ((h 90 7) + 1) < (h87 90 7) + (h87 90 8) := f70
            clear f70
            refine ov_goto (tgt := 106) d_233_96 (by decide) ?_
            refine ov_iast d_233_106 (zb_96 I88) (zs_96 I88) (by omega) ?_
            have I104 := ua_96 (k := (342 + v2)) (x := v71) I88 (by refine ⟨?_, ?_, ?_, ?_, ?_, ?_, ?_, ?_, ?_, ?_, ?_, ?_, ?_, ?_, ?_, ?_, ?_, ?_, ?_, ?_, ?_, ?_, ?_, ?_, ?_, ?_, ?_, ?_, ?_⟩ <;> omega)
            have R105 : ov_RD (h 96) (h 97) (h 98) (h 90 13) (h87 96) (h87 97) (h87 98) (h 90 13) := by rw [show h87 96 = h 96 from E93, show h87 97 = h 97 from E94, show h87 98 = h 98 from E95]; exact ov_RD_refl _ _ _ _
            have R106 : ov_RD (h 96) (h 97) (h 98) (h 90 13) ((ov_up h87 96 (342 + v2) v71) 96) ((ov_up h87 96 (342 + v2) v71) 97) ((ov_up h87 96 (342 + v2) v71) 98) (h 90 13) := by rw [ov_up_row]; exact ov_RD_w R105 (t96_348 I88).2 (by omega)
            have qo1 : ((342 + v2)) = 342 → ((ov_up h87 96 (342 + v2) v71) 96 342) = v71 := fun e => by rw [ov_up_row]; unfold ov_rs; rw [if_pos e.symm]
            have qo2 : ¬ ((342 + v2)) = 342 → ((ov_up h87 96 (342 + v2) v71) 96 342) = h87 96 342 := fun e => by rw [ov_up_j (fun q => e q.symm)]; try rfl
            have lt107 : ((ov_up h87 96 (342 + v2) v71) 96 340) = h87 96 340 := by try rw [ov_up_j (by omega)]; try rfl
            have lt108 : h87 96 340 = h 96 340 := congrFun E93 340
            have lt109 : ((ov_up h87 96 (342 + v2) v71) 96 341) = h87 96 341 := by try rw [ov_up_j (by omega)]; try rfl
            have lt110 : h87 96 341 = h 96 341 := congrFun E93 341
            have lt111 : ((ov_up h87 96 (342 + v2) v71) 96 348) = h87 96 348 := by try rw [ov_up_j (by omega)]; try rfl
            have lt112 : h87 96 348 = h 96 348 := congrFun E93 348
            have lt113 : ((ov_up h87 96 (342 + v2) v71) 96 349) = h87 96 349 := by try rw [ov_up_j (by omega)]; try rfl
            have lt114 : h87 96 349 = h 96 349 := congrFun E93 349
            have qo3 : h87 96 342 = h 96 342 := congrFun E93 342
            have cf115 : h87 96 340 = h 96 340 := congrFun E93 340
            have cf116 : h87 96 341 = h 96 341 := congrFun E93 341
            have cf117 : h87 96 342 = h 96 342 := congrFun E93 342
            have cf118 : h87 96 349 = h 96 349 := congrFun E93 349
            exact ov_retv (st := []) d_233_107 rfl ⟨rfl, I104, (by show (h87 90 2) = (h 90 2) ∧ (h87 90 13) = (h 90 13) ∧ (h87 90 20) = (h 90 20) ∧ (h87 90 22) = (h 90 22) ∧ (h87 90 25) = (h 90 25) ∧ (h87 90 26) = (h 90 26) ∧ (h87 90 28) = (h 90 28) ∧ (h87 90 29) = (h 90 29) ∧ (h87 90 30) = (h 90 30) ∧ (h87 90 34) = (h 90 34) ∧ (h 90 7) ≤ (h87 90 7) ∧ (h87 90 7) ≤ n ∧ (h 90 13) ≤ (h87 90 13) ∧ (h87 90 13) - (h 90 13) ≤ (h87 90 7) - (h 90 7) ∧ ((ov_up h87 96 (342 + v2) v71) 96 340) = (h 96 340) ∧ ((ov_up h87 96 (342 + v2) v71) 96 341) = (h 96 341) ∧ ((h87 90 8) = 0 → 1 ≤ (h 96 342) → 1 ≤ ((ov_up h87 96 (342 + v2) v71) 96 342)) ∧ (1 ≤ (h 96 349) → 1 ≤ ((ov_up h87 96 (342 + v2) v71) 96 349)); omega), E89, E90, E91, E92, E94, E95, E96, E97, E98, E99, E100, E101, E102, R106.1, R106.2.1, (fun _ w => by show ov_CS ((ov_up h87 96 (342 + v2) v71) 96) ((ov_up h87 96 (342 + v2) v71) 97) ((ov_up h87 96 (342 + v2) v71) 98) (h87 90 13); rw [show (h87 90 13) = h 90 13 by omega]; exact R106.2.2 w)⟩
        · skip
          refine ov_blk (ls2 := [(0, ov_r 90), (1, ov_i v2)]) (st2 := [ov_i 1, ov_i (342 + v2), ov_r 96]) (pc2 := 81) b_233_80_1 rfl rfl ?_
          refine ov_goto (tgt := 106) d_233_81 (by decide) ?_
          refine ov_iast d_233_106 (zb_96 I18) (zs_96 I18) (by omega) ?_
          have I119 := ua_96 (k := (342 + v2)) (x := 1) I18 (by refine ⟨?_, ?_, ?_, ?_, ?_, ?_, ?_, ?_, ?_, ?_, ?_, ?_, ?_, ?_, ?_, ?_, ?_, ?_, ?_, ?_, ?_, ?_, ?_, ?_, ?_, ?_, ?_, ?_, ?_⟩ <;> omega)
          have R120 : ov_RD (h 96) (h 97) (h 98) (h 90 13) ((ov_up (ov_up h 90 15 w15) 90 7 ((h 90 7) + 1)) 96) ((ov_up (ov_up h 90 15 w15) 90 7 ((h 90 7) + 1)) 97) ((ov_up (ov_up h 90 15 w15) 90 7 ((h 90 7) + 1)) 98) (h 90 13) := by exact ov_RD_refl _ _ _ _
          have R121 : ov_RD (h 96) (h 97) (h 98) (h 90 13) ((ov_up (ov_up (ov_up h 90 15 w15) 90 7 ((h 90 7) + 1)) 96 (342 + v2) 1) 96) ((ov_up (ov_up (ov_up h 90 15 w15) 90 7 ((h 90 7) + 1)) 96 (342 + v2) 1) 97) ((ov_up (ov_up (ov_up h 90 15 w15) 90 7 ((h 90 7) + 1)) 96 (342 + v2) 1) 98) (h 90 13) := by rw [ov_up_row]; exact ov_RD_w R120 (t96_348 I18).2 (by omega)
          have qo1 : ((342 + v2)) = 342 → ((ov_up (ov_up (ov_up h 90 15 w15) 90 7 ((h 90 7) + 1)) 96 (342 + v2) 1) 96 342) = 1 := fun e => by rw [ov_up_row]; unfold ov_rs; rw [if_pos e.symm]
          have qo2 : ¬ ((342 + v2)) = 342 → ((ov_up (ov_up (ov_up h 90 15 w15) 90 7 ((h 90 7) + 1)) 96 (342 + v2) 1) 96 342) = h 96 342 := fun e => by rw [ov_up_j (fun q => e q.symm)]; try rfl
          have lt122 : ((ov_up (ov_up (ov_up h 90 15 w15) 90 7 ((h 90 7) + 1)) 96 (342 + v2) 1) 96 340) = h 96 340 := by try rw [ov_up_j (by omega)]; try show (ov_up h 90 15 w15) 96 340 = _; try show h 96 340 = _; try rfl
          have lt123 : ((ov_up (ov_up (ov_up h 90 15 w15) 90 7 ((h 90 7) + 1)) 96 (342 + v2) 1) 96 341) = h 96 341 := by try rw [ov_up_j (by omega)]; try show (ov_up h 90 15 w15) 96 341 = _; try show h 96 341 = _; try rfl
          have lt124 : ((ov_up (ov_up (ov_up h 90 15 w15) 90 7 ((h 90 7) + 1)) 96 (342 + v2) 1) 96 348) = h 96 348 := by try rw [ov_up_j (by omega)]; try show (ov_up h 90 15 w15) 96 348 = _; try show h 96 348 = _; try rfl
          have lt125 : ((ov_up (ov_up (ov_up h 90 15 w15) 90 7 ((h 90 7) + 1)) 96 (342 + v2) 1) 96 349) = h 96 349 := by try rw [ov_up_j (by omega)]; try show (ov_up h 90 15 w15) 96 349 = _; try show h 96 349 = _; try rfl
          exact ov_retv (st := []) d_233_107 rfl ⟨rfl, I119, ⟨rfl, rfl, rfl, rfl, rfl, rfl, rfl, rfl, rfl, rfl, (by show (h 90 7) ≤ ((h 90 7) + 1) ∧ ((h 90 7) + 1) ≤ n ∧ (h 90 13) ≤ (h 90 13) ∧ (h 90 13) - (h 90 13) ≤ ((h 90 7) + 1) - (h 90 7) ∧ ((ov_up (ov_up (ov_up h 90 15 w15) 90 7 ((h 90 7) + 1)) 96 (342 + v2) 1) 96 340) = (h 96 340) ∧ ((ov_up (ov_up (ov_up h 90 15 w15) 90 7 ((h 90 7) + 1)) 96 (342 + v2) 1) 96 341) = (h 96 341) ∧ ((h 90 8) = 0 → 1 ≤ (h 96 342) → 1 ≤ ((ov_up (ov_up (ov_up h 90 15 w15) 90 7 ((h 90 7) + 1)) 96 (342 + v2) 1) 96 342)) ∧ (1 ≤ (h 96 349) → 1 ≤ ((ov_up (ov_up (ov_up h 90 15 w15) 90 7 ((h 90 7) + 1)) 96 (342 + v2) 1) 96 349)); omega)⟩, rfl, rfl, rfl, rfl, rfl, rfl, rfl, rfl, rfl, rfl, rfl, rfl, rfl, R121.1, R121.2.1, (fun _ w => by show ov_CS ((ov_up (ov_up (ov_up h 90 15 w15) 90 7 ((h 90 7) + 1)) 96 (342 + v2) 1) 96) ((ov_up (ov_up (ov_up h 90 15 w15) 90 7 ((h 90 7) + 1)) 96 (342 + v2) 1) 97) ((ov_up (ov_up (ov_up h 90 15 w15) 90 7 ((h 90 7) + 1)) 96 (342 + v2) 1) 98) (h 90 13); rw [show (h 90 13) = h 90 13 by omega]; exact R121.2.2 w)⟩
      · skip
        have R126 : ov_RD (h 96) (h 97) (h 98) (h 90 13) (h 96) (h 97) (h 98) (h 90 13) := by exact ov_RD_refl _ _ _ _
        exact ov_retv (st := []) d_233_43 rfl ⟨rfl, I, ⟨rfl, rfl, rfl, rfl, rfl, rfl, rfl, rfl, rfl, rfl, (by show (h 90 7) ≤ (h 90 7) ∧ (h 90 7) ≤ n ∧ (h 90 13) ≤ (h 90 13) ∧ (h 90 13) - (h 90 13) ≤ (h 90 7) - (h 90 7) ∧ (h 96 340) = (h 96 340) ∧ (h 96 341) = (h 96 341) ∧ ((h 90 8) = 0 → 1 ≤ (h 96 342) → 1 ≤ (h 96 342)) ∧ (1 ≤ (h 96 349) → 1 ≤ (h 96 349)); omega)⟩, rfl, rfl, rfl, rfl, rfl, rfl, rfl, rfl, rfl, rfl, rfl, rfl, rfl, R126.1, R126.2.1, (fun _ w => by show ov_CS (h 96) (h 97) (h 98) (h 90 13); rw [show (h 90 13) = h 90 13 by omega]; exact R126.2.2 w)⟩
    · skip
      refine ov_blk (ls2 := [(0, ov_r 90), (1, ov_i v2)]) (st2 := [ov_i 3, ov_r 90]) (pc2 := 33) b_233_31_2 rfl rfl ?_
      refine ov_cV (as := [ov_i 3]) (st := []) (d2 := d - 1) d_233_33 lk_Mo_186 rfl (Nat.le_of_ble_eq_true rfl) (c := 1) (zb_90 I) (zs_90 I) ⟨by decide, rfl⟩ (by omega) (c_Mo_wrong_90 (d - 1) (by omega) U I 3 (by omega) (by omega)) ?_
      rintro _ z142 h143 ⟨rfl, I144, f127, e128, e129, e130, e131, e132, e133, e134, e135, e136, e137, e138, e139, e140, e141⟩
      have E145 : h143 92 = h 92 := e128
      have E146 : h143 93 = h 93 := e129
      have E147 : h143 94 = h 94 := e130
      have E148 : h143 95 = h 95 := e131
      have E149 : h143 96 = h 96 := e132
      have E150 : h143 97 = h 97 := e133
      have E151 : h143 98 = h 98 := e134
      have E152 : h143 99 = h 99 := e135
      have E153 : h143 100 = h 100 := e136
      have E154 : h143 103 = h 103 := e137
      have E155 : h143 105 = h 105 := e138
      have E156 : h143 106 = h 106 := e139
      have E157 : h143 109 = h 109 := e140
      have E158 : h143 114 = h 114 := e141
      show ov_R u d ov_m233 36 [(0, ov_r 90), (1, ov_i v2)] [] z142 h143 (P_Mo_readOnce_90 F z h n)
      have f159 : (h143 90 2) = (h 90 2) ∧ (h143 90 7) = (h 90 7) ∧ (h143 90 13) = (h 90 13) ∧ (h143 90 20) = (h 90 20) ∧ (h143 90 22) = (h 90 22) ∧ (h143 90 25) = (h 90 25) ∧ (h143 90 26) = (h 90 26) ∧ (h143 90 28) = (h 90 28) ∧ (h143 90 29) = (h 90 29) ∧ (h143 90 30) = (h 90 30) ∧ (h143 90 34) = (h 90 34) ∧ 0 < (h143 90 8) ∧ (h 90 8) ≤ (h143 90 8) := f127
      clear f127
      refine ov_blk (ls2 := [(0, ov_r 90), (1, ov_i v2)]) (st2 := [ov_r 90]) (pc2 := 37) b_233_36_1 rfl rfl ?_
      refine ov_getf (v := ov_i (h143 90 8)) d_233_37 fl_Mo_180 (zb_90 I144) (zs_90 I144) rfl ?_
      have g160 := rg_90_8 I144
      refine ov_ifle (tgt := 44) d_233_40 (by decide) (by omega) (fun c161 => ?_) (fun c161 => ?_)
      · omega
      · skip
        have qo3 : h143 96 342 = h 96 342 := congrFun E149 342
        have cf162 : h143 96 340 = h 96 340 := congrFun E149 340
        have cf163 : h143 96 341 = h 96 341 := congrFun E149 341
        have cf164 : h143 96 342 = h 96 342 := congrFun E149 342
        have cf165 : h143 96 349 = h 96 349 := congrFun E149 349
        have R166 : ov_RD (h 96) (h 97) (h 98) (h 90 13) (h143 96) (h143 97) (h143 98) (h 90 13) := by rw [show h143 96 = h 96 from E149, show h143 97 = h 97 from E150, show h143 98 = h 98 from E151]; exact ov_RD_refl _ _ _ _
        exact ov_retv (st := []) d_233_43 rfl ⟨rfl, I144, (by show (h143 90 2) = (h 90 2) ∧ (h143 90 13) = (h 90 13) ∧ (h143 90 20) = (h 90 20) ∧ (h143 90 22) = (h 90 22) ∧ (h143 90 25) = (h 90 25) ∧ (h143 90 26) = (h 90 26) ∧ (h143 90 28) = (h 90 28) ∧ (h143 90 29) = (h 90 29) ∧ (h143 90 30) = (h 90 30) ∧ (h143 90 34) = (h 90 34) ∧ (h 90 7) ≤ (h143 90 7) ∧ (h143 90 7) ≤ n ∧ (h 90 13) ≤ (h143 90 13) ∧ (h143 90 13) - (h 90 13) ≤ (h143 90 7) - (h 90 7) ∧ (h143 96 340) = (h 96 340) ∧ (h143 96 341) = (h 96 341) ∧ ((h143 90 8) = 0 → 1 ≤ (h 96 342) → 1 ≤ (h143 96 342)) ∧ (1 ≤ (h 96 349) → 1 ≤ (h143 96 349)); omega), E145, E146, E147, E148, E150, E151, E152, E153, E154, E155, E156, E157, E158, R166.1, R166.2.1, (fun _ w => by show ov_CS (h143 96) (h143 97) (h143 98) (h143 90 13); rw [show (h143 90 13) = h 90 13 by omega]; exact R166.2.2 w)⟩
  · skip
    refine ov_blk (ls2 := [(0, ov_r 90), (1, ov_i v2)]) (st2 := [ov_i 1, ov_r 90]) (pc2 := 13) b_233_11_2 rfl rfl ?_
    refine ov_cV (as := [ov_i 1]) (st := []) (d2 := d - 1) d_233_13 lk_Mo_186 rfl (Nat.le_of_ble_eq_true rfl) (c := 1) (zb_90 I) (zs_90 I) ⟨by decide, rfl⟩ (by omega) (c_Mo_wrong_90 (d - 1) (by omega) U I 1 (by omega) (by omega)) ?_
    rintro _ z182 h183 ⟨rfl, I184, f167, e168, e169, e170, e171, e172, e173, e174, e175, e176, e177, e178, e179, e180, e181⟩
    have E185 : h183 92 = h 92 := e168
    have E186 : h183 93 = h 93 := e169
    have E187 : h183 94 = h 94 := e170
    have E188 : h183 95 = h 95 := e171
    have E189 : h183 96 = h 96 := e172
    have E190 : h183 97 = h 97 := e173
    have E191 : h183 98 = h 98 := e174
    have E192 : h183 99 = h 99 := e175
    have E193 : h183 100 = h 100 := e176
    have E194 : h183 103 = h 103 := e177
    have E195 : h183 105 = h 105 := e178
    have E196 : h183 106 = h 106 := e179
    have E197 : h183 109 = h 109 := e180
    have E198 : h183 114 = h 114 := e181
    show ov_R u d ov_m233 16 [(0, ov_r 90), (1, ov_i v2)] [] z182 h183 (P_Mo_readOnce_90 F z h n)
    have f199 : (h183 90 2) = (h 90 2) ∧ (h183 90 7) = (h 90 7) ∧ (h183 90 13) = (h 90 13) ∧ (h183 90 20) = (h 90 20) ∧ (h183 90 22) = (h 90 22) ∧ (h183 90 25) = (h 90 25) ∧ (h183 90 26) = (h 90 26) ∧ (h183 90 28) = (h 90 28) ∧ (h183 90 29) = (h 90 29) ∧ (h183 90 30) = (h 90 30) ∧ (h183 90 34) = (h 90 34) ∧ 0 < (h183 90 8) ∧ (h 90 8) ≤ (h183 90 8) := f167
    clear f167
    refine ov_goto (tgt := 36) d_233_16 (by decide) ?_
    refine ov_blk (ls2 := [(0, ov_r 90), (1, ov_i v2)]) (st2 := [ov_r 90]) (pc2 := 37) b_233_36_1 rfl rfl ?_
    refine ov_getf (v := ov_i (h183 90 8)) d_233_37 fl_Mo_180 (zb_90 I184) (zs_90 I184) rfl ?_
    have g200 := rg_90_8 I184
    refine ov_ifle (tgt := 44) d_233_40 (by decide) (by omega) (fun c201 => ?_) (fun c201 => ?_)
    · omega
    · skip
      have qo3 : h183 96 342 = h 96 342 := congrFun E189 342
      have cf202 : h183 96 340 = h 96 340 := congrFun E189 340
      have cf203 : h183 96 341 = h 96 341 := congrFun E189 341
      have cf204 : h183 96 342 = h 96 342 := congrFun E189 342
      have cf205 : h183 96 349 = h 96 349 := congrFun E189 349
      have R206 : ov_RD (h 96) (h 97) (h 98) (h 90 13) (h183 96) (h183 97) (h183 98) (h 90 13) := by rw [show h183 96 = h 96 from E189, show h183 97 = h 97 from E190, show h183 98 = h 98 from E191]; exact ov_RD_refl _ _ _ _
      exact ov_retv (st := []) d_233_43 rfl ⟨rfl, I184, (by show (h183 90 2) = (h 90 2) ∧ (h183 90 13) = (h 90 13) ∧ (h183 90 20) = (h 90 20) ∧ (h183 90 22) = (h 90 22) ∧ (h183 90 25) = (h 90 25) ∧ (h183 90 26) = (h 90 26) ∧ (h183 90 28) = (h 90 28) ∧ (h183 90 29) = (h 90 29) ∧ (h183 90 30) = (h 90 30) ∧ (h183 90 34) = (h 90 34) ∧ (h 90 7) ≤ (h183 90 7) ∧ (h183 90 7) ≤ n ∧ (h 90 13) ≤ (h183 90 13) ∧ (h183 90 13) - (h 90 13) ≤ (h183 90 7) - (h 90 7) ∧ (h183 96 340) = (h 96 340) ∧ (h183 96 341) = (h 96 341) ∧ ((h183 90 8) = 0 → 1 ≤ (h 96 342) → 1 ≤ (h183 96 342)) ∧ (1 ≤ (h 96 349) → 1 ≤ (h183 96 349)); omega), E185, E186, E187, E188, E190, E191, E192, E193, E194, E195, E196, E197, E198, R206.1, R206.2.1, (fun _ w => by show ov_CS (h183 96) (h183 97) (h183 98) (h183 90 13); rw [show (h183 90 13) = h 90 13 by omega]; exact R206.2.2 w)⟩
abbrev P_Mo_readBar_90 (F : ov_H × ov_Z) (z : ov_Z) (h : ov_H) (n : Int) : Option ov_V → ov_Z → ov_H → Prop := fun r0 z' h' => r0 = none ∧ ov_N F z' h' ∧ ((h' 90 2) = (h 90 2) ∧ (h' 90 13) = (h 90 13) ∧ (h' 90 20) = (h 90 20) ∧ (h' 90 22) = (h 90 22) ∧ (h' 90 25) = (h 90 25) ∧ (h' 90 26) = (h 90 26) ∧ (h' 90 28) = (h 90 28) ∧ (h' 90 29) = (h 90 29) ∧ (h' 90 30) = (h 90 30) ∧ (h' 90 34) = (h 90 34) ∧ (h 90 7) ≤ (h' 90 7) ∧ (h' 90 7) ≤ n ∧ (h 90 13) ≤ (h' 90 13) ∧ (h' 90 13) - (h 90 13) ≤ (h' 90 7) - (h 90 7) ∧ (h' 96 340) = (h 96 340) ∧ (h' 96 341) = (h 96 341) ∧ ((h' 90 8) = 0 → 1 ≤ (h 96 342) → 1 ≤ (h' 96 342)) ∧ (1 ≤ (h 96 349) → 1 ≤ (h' 96 349))) ∧ h' 92 = h 92 ∧ h' 93 = h 93 ∧ h' 94 = h 94 ∧ h' 95 = h 95 ∧ h' 97 = h 97 ∧ h' 98 = h 98 ∧ h' 99 = h 99 ∧ h' 100 = h 100 ∧ h' 103 = h 103 ∧ h' 105 = h 105 ∧ h' 106 = h 106 ∧ h' 109 = h 109 ∧ h' 114 = h 114 ∧ (ov_MK (h 96) (h 97) (h 98) (h' 96) (h' 97) (h' 98)) ∧ (ov_WS (h 96) → ov_WS (h' 96)) ∧ ((h' 90 8) = 0 → ov_CS (h 96) (h 97) (h 98) (h 90 13) → ov_CS (h' 96) (h' 97) (h' 98) (h' 90 13))
set_option maxHeartbeats 4000000 in
theorem c_Mo_readBar_90 {u : ov_U} {F : ov_H × ov_Z} (n : Int) {z : ov_Z} {h : ov_H} (d : Nat) (hd : 2 ≤ d) (U : ov_cap u) (I : ov_N F z h) (p0 : 0 ≤ n ∧ n ≤ 1000 ∧ (h 92 (n)) = 0 ∧ (h 90 7) ≤ n) (p1 : (h 90 13) ≤ (h 90 7)) (p2 : (h 90 8) = 0) (p3 : (h 90 7) < n) : ov_T u d ov_m223 [ov_r 90] z h (P_Mo_readBar_90 F z h n) := by
  refine ov_en rfl (Nat.le_of_ble_eq_true rfl) ?_
  show ov_R u d ov_m223 0 [(0, ov_r 90)] [] z h (P_Mo_readBar_90 F z h n)
  refine ov_blk (ls2 := [(0, ov_r 90)]) (st2 := [ov_r 90, ov_r 90]) (pc2 := 2) b_223_0_2 rfl rfl ?_
  refine ov_getf (v := ov_i (h 90 7)) d_223_2 fl_Mo_177 (zb_90 I) (zs_90 I) rfl ?_
  have g1 := rg_90_7 I
  refine ov_blk (ls2 := [(0, ov_r 90)]) (st2 := [ov_i ((h 90 7) + 1), ov_r 90]) (pc2 := 7) b_223_5_2 rfl rfl ?_
  refine ov_putf (x := ((h 90 7) + 1)) d_223_7 fl_Mo_177 (zb_90 I) (zs_90 I) rfl nk_0 rfl ?_
  have I2 := up_90_7 (x := ((h 90 7) + 1)) I (by omega)
  refine ov_blk (ls2 := [(0, ov_r 90)]) (st2 := [ov_r 90, ov_i 0, ov_r 90]) (pc2 := 13) b_223_10_3 rfl rfl ?_
  refine ov_getf (v := ov_r 96) d_223_13 fl_Mo_81 (zb_90 I2) (zs_90 I2) (congrArg ov_r (rg_90_10 I2)) ?_
  refine ov_blk (ls2 := [(0, ov_r 90)]) (st2 := [ov_i 340, ov_r 96, ov_i 0, ov_r 90]) (pc2 := 19) b_223_16_1 rfl rfl ?_
  refine ov_iald d_223_19 (zb_96 I2) (zs_96 I2) (by omega) ?_
  show ov_R u d ov_m223 20 [(0, ov_r 90)] [ov_i (h 96 340), ov_i 0, ov_r 90] z (ov_up h 90 7 ((h 90 7) + 1)) (P_Mo_readBar_90 F z h n)
  have g3 := t96_340 I
  refine ov_blk (ls2 := [(0, ov_r 90)]) (st2 := [ov_i ((h 96 340) - 1), ov_i 0, ov_r 90]) (pc2 := 22) b_223_20_2 rfl rfl ?_
  refine ov_cV (as := [ov_i 0, ov_i ((h 96 340) - 1)]) (st := []) (d2 := d - 1) d_223_22 lk_Mo_198 rfl (Nat.le_of_ble_eq_true rfl) (c := 1) (zb_90 I2) (zs_90 I2) ⟨by decide, rfl⟩ (by omega) (c_Mo_takeNumber_90 n (d - 1) (by omega) U I2 0 ((h 96 340) - 1) (by omega) (by omega) (by show 0 ≤ n ∧ n ≤ 1000 ∧ (h 92 (n)) = 0 ∧ ((h 90 7) + 1) ≤ n; omega)) ?_
  rintro _ z20 h21 ⟨v5, rfl, I22, f4, e6, e7, e8, e9, e10, e11, e12, e13, e14, e15, e16, e17, e18, e19⟩
  have E23 : h21 92 = h 92 := e6
  have E24 : h21 93 = h 93 := e7
  have E25 : h21 94 = h 94 := e8
  have E26 : h21 95 = h 95 := e9
  have E27 : h21 96 = h 96 := e10
  have E28 : h21 97 = h 97 := e11
  have E29 : h21 98 = h 98 := e12
  have E30 : h21 99 = h 99 := e13
  have E31 : h21 100 = h 100 := e14
  have E32 : h21 103 = h 103 := e15
  have E33 : h21 105 = h 105 := e16
  have E34 : h21 106 = h 106 := e17
  have E35 : h21 109 = h 109 := e18
  have E36 : h21 114 = h 114 := e19
  show ov_R u d ov_m223 25 [(0, ov_r 90)] [ov_i v5] z20 h21 (P_Mo_readBar_90 F z h n)
  have f37 : (h21 90 2) = (h 90 2) ∧ (h21 90 13) = (h 90 13) ∧ (h21 90 20) = (h 90 20) ∧ (h21 90 22) = (h 90 22) ∧ (h21 90 25) = (h 90 25) ∧ (h21 90 26) = (h 90 26) ∧ (h21 90 28) = (h 90 28) ∧ (h21 90 29) = (h 90 29) ∧ (h21 90 30) = (h 90 30) ∧ (h21 90 34) = (h 90 34) ∧ ((h 90 7) + 1) ≤ (h21 90 7) ∧ (h21 90 7) ≤ n ∧ (h 90 8) ≤ (h21 90 8) ∧ ((h21 90 8) = 0 → (0 : Int) ≤ v5 ∧ v5 ≤ ((h 96 340) - 1)) ∧ (0 < (h21 90 8) → v5 = 0) ∧ ((h 90 7) + 1) < (h21 90 7) + (h21 90 8) := f4
  clear f4
  refine ov_blk (ls2 := [(0, ov_r 90), (1, ov_i v5)]) (st2 := [ov_r 90, ov_i 0, ov_r 90]) (pc2 := 29) b_223_25_4 rfl rfl ?_
  refine ov_getf (v := ov_r 96) d_223_29 fl_Mo_81 (zb_90 I22) (zs_90 I22) (congrArg ov_r (rg_90_10 I22)) ?_
  refine ov_blk (ls2 := [(0, ov_r 90), (1, ov_i v5)]) (st2 := [ov_i 341, ov_r 96, ov_i 0, ov_r 90]) (pc2 := 35) b_223_32_1 rfl rfl ?_
  refine ov_iald d_223_35 (zb_96 I22) (zs_96 I22) (by omega) ?_
  rw [show h21 96 = h 96 from E27]
  have g38 := t96_341 I
  refine ov_blk (ls2 := [(0, ov_r 90), (1, ov_i v5)]) (st2 := [ov_i ((h 96 341) - 1), ov_i 0, ov_r 90]) (pc2 := 38) b_223_36_2 rfl rfl ?_
  have cf39 : h21 92 (n) = h 92 (n) := congrFun E23 (n)
  refine ov_cV (as := [ov_i 0, ov_i ((h 96 341) - 1)]) (st := []) (d2 := d - 1) d_223_38 lk_Mo_198 rfl (Nat.le_of_ble_eq_true rfl) (c := 1) (zb_90 I22) (zs_90 I22) ⟨by decide, rfl⟩ (by omega) (c_Mo_takeNumber_90 n (d - 1) (by omega) U I22 0 ((h 96 341) - 1) (by omega) (by omega) (by show 0 ≤ n ∧ n ≤ 1000 ∧ (h21 92 (n)) = 0 ∧ (h21 90 7) ≤ n; omega)) ?_
  rintro _ z56 h57 ⟨v41, rfl, I58, f40, e42, e43, e44, e45, e46, e47, e48, e49, e50, e51, e52, e53, e54, e55⟩
  have E59 : h57 92 = h 92 := Eq.trans e42 E23
  have E60 : h57 93 = h 93 := Eq.trans e43 E24
  have E61 : h57 94 = h 94 := Eq.trans e44 E25
  have E62 : h57 95 = h 95 := Eq.trans e45 E26
  have E63 : h57 96 = h 96 := Eq.trans e46 E27
  have E64 : h57 97 = h 97 := Eq.trans e47 E28
  have E65 : h57 98 = h 98 := Eq.trans e48 E29
  have E66 : h57 99 = h 99 := Eq.trans e49 E30
  have E67 : h57 100 = h 100 := Eq.trans e50 E31
  have E68 : h57 103 = h 103 := Eq.trans e51 E32
  have E69 : h57 105 = h 105 := Eq.trans e52 E33
  have E70 : h57 106 = h 106 := Eq.trans e53 E34
  have E71 : h57 109 = h 109 := Eq.trans e54 E35
  have E72 : h57 114 = h 114 := Eq.trans e55 E36
  show ov_R u d ov_m223 41 [(0, ov_r 90), (1, ov_i v5)] [ov_i v41] z56 h57 (P_Mo_readBar_90 F z h n)
  have f73 : (h57 90 2) = (h21 90 2) ∧ (h57 90 13) = (h21 90 13) ∧ (h57 90 20) = (h21 90 20) ∧ (h57 90 22) = (h21 90 22) ∧ (h57 90 25) = (h21 90 25) ∧ (h57 90 26) = (h21 90 26) ∧ (h57 90 28) = (h21 90 28) ∧ (h57 90 29) = (h21 90 29) ∧ (h57 90 30) = (h21 90 30) ∧ (h57 90 34) = (h21 90 34) ∧ (h21 90 7) ≤ (h57 90 7) ∧ (h57 90 7) ≤ n ∧ (h21 90 8) ≤ (h57 90 8) ∧ ((h57 90 8) = 0 → (0 : Int) ≤ v41 ∧ v41 ≤ ((h 96 341) - 1)) ∧ (0 < (h57 90 8) → v41 = 0) ∧ (h21 90 7) < (h57 90 7) + (h57 90 8) := f40
  clear f40
  refine ov_blk (ls2 := [(0, ov_r 90), (1, ov_i v5), (2, ov_i v41)]) (st2 := [ov_r 90]) (pc2 := 43) b_223_41_2 rfl rfl ?_
  refine ov_getf (v := ov_i (h57 90 8)) d_223_43 fl_Mo_180 (zb_90 I58) (zs_90 I58) rfl ?_
  have g74 := rg_90_8 I58
  refine ov_ifle (tgt := 53) d_223_46 (by decide) (by omega) (fun c75 => ?_) (fun c75 => ?_)
  · skip
    refine ov_blk (ls2 := [(0, ov_r 90), (1, ov_i v5), (2, ov_i v41)]) (st2 := [ov_i 2, ov_i 10, ov_r 90]) (pc2 := 57) b_223_53_3 rfl rfl ?_
    have cf76 : h57 92 (n) = h 92 (n) := congrFun E59 (n)
    refine ov_cV (as := [ov_i 10, ov_i 2]) (st := []) (d2 := d - 1) d_223_57 lk_Mo_202 rfl (Nat.le_of_ble_eq_true rfl) (c := 1) (zb_90 I58) (zs_90 I58) ⟨by decide, rfl⟩ (by omega) (c_Mo_wordHere_90 n (d - 1) (by omega) U I58 10 2 (by omega) (by omega) (by show 0 ≤ n ∧ n ≤ 1000 ∧ (h57 92 (n)) = 0 ∧ (h57 90 7) ≤ n; omega) (by omega)) ?_
    rintro _ _ _ ⟨v78, rfl, rfl, rfl, f77⟩
    show ov_R u d ov_m223 60 [(0, ov_r 90), (1, ov_i v5), (2, ov_i v41)] [ov_i v78] z56 h57 (P_Mo_readBar_90 F z h n)
    have f79 : -1 ≤ v78 ∧ v78 < (2 : Int) ∧ (0 ≤ v78 → (h57 90 7) < n ∧ (h57 90 8) = 0) := f77
    clear f77
    refine ov_blk (ls2 := [(0, ov_r 90), (1, ov_i v5), (2, ov_i v41), (3, ov_i v78)]) (st2 := [ov_i v78]) (pc2 := 62) b_223_60_2 rfl rfl ?_
    refine ov_ifge (tgt := 71) d_223_62 (by decide) (by omega) (fun c80 => ?_) (fun c80 => ?_)
    · skip
      refine ov_blk (ls2 := [(0, ov_r 90), (1, ov_i v5), (2, ov_i v41), (3, ov_i v78), (4, ov_i ((566 + (6 * v41)) + v5))]) (st2 := [ov_r 90]) (pc2 := 84) b_223_71_9 rfl rfl ?_
      refine ov_getf (v := ov_r 96) d_223_84 fl_Mo_81 (zb_90 I58) (zs_90 I58) (congrArg ov_r (rg_90_10 I58)) ?_
      refine ov_blk (ls2 := [(0, ov_r 90), (1, ov_i v5), (2, ov_i v41), (3, ov_i v78), (4, ov_i ((566 + (6 * v41)) + v5))]) (st2 := [ov_i ((566 + (6 * v41)) + v5), ov_r 96]) (pc2 := 89) b_223_87_1 rfl rfl ?_
      refine ov_iald d_223_89 (zb_96 I58) (zs_96 I58) (by omega) ?_
      rw [show h57 96 = h 96 from E63]
      have g81 := g96 I ((566 + (6 * v41)) + v5)
      refine ov_blk (ls2 := [(0, ov_r 90), (1, ov_i v5), (2, ov_i v41), (3, ov_i v78), (4, ov_i ((566 + (6 * v41)) + v5))]) (st2 := [ov_i 1, ov_i (ov_and (ov_shr (h 96 ((566 + (6 * v41)) + v5)) v78) 1)]) (pc2 := 95) b_223_90_5 rfl rfl ?_
      have g82 := ov_shrg (h 96 ((566 + (6 * v41)) + v5)) v78
      have g83 := ov_andg (ov_shr (h 96 ((566 + (6 * v41)) + v5)) v78) 1
      have g84 := ov_and1 (ov_shr (h 96 ((566 + (6 * v41)) + v5)) v78)
      refine ov_icne (tgt := 104) d_223_95 (by decide) (by omega) (by omega) (fun c85 => ?_) (fun c85 => ?_)
      · skip
        refine ov_blk (ls2 := [(0, ov_r 90), (1, ov_i v5), (2, ov_i v41), (3, ov_i v78), (4, ov_i ((566 + (6 * v41)) + v5))]) (st2 := [ov_r 90, ov_r 90]) (pc2 := 106) b_223_104_2 rfl rfl ?_
        refine ov_getf (v := ov_i (h57 90 7)) d_223_106 fl_Mo_177 (zb_90 I58) (zs_90 I58) rfl ?_
        have g86 := rg_90_7 I58
        refine ov_blk (ls2 := [(0, ov_r 90), (1, ov_i v5), (2, ov_i v41), (3, ov_i v78), (4, ov_i ((566 + (6 * v41)) + v5))]) (st2 := [ov_i ((h57 90 7) + 1), ov_r 90]) (pc2 := 111) b_223_109_2 rfl rfl ?_
        refine ov_putf (x := ((h57 90 7) + 1)) d_223_111 fl_Mo_177 (zb_90 I58) (zs_90 I58) rfl nk_0 rfl ?_
        have I87 := up_90_7 (x := ((h57 90 7) + 1)) I58 (by omega)
        refine ov_blk (ls2 := [(0, ov_r 90), (1, ov_i v5), (2, ov_i v41), (3, ov_i v78), (4, ov_i ((566 + (6 * v41)) + v5))]) (st2 := [ov_r 90]) (pc2 := 115) b_223_114_1 rfl rfl ?_
        refine ov_getf (v := ov_r 96) d_223_115 fl_Mo_81 (zb_90 I87) (zs_90 I87) (congrArg ov_r (rg_90_10 I87)) ?_
        refine ov_blk (ls2 := [(0, ov_r 90), (1, ov_i v5), (2, ov_i v41), (3, ov_i v78), (4, ov_i ((566 + (6 * v41)) + v5))]) (st2 := [ov_i ((566 + (6 * v41)) + v5), ov_r 96, ov_i ((566 + (6 * v41)) + v5), ov_r 96]) (pc2 := 121) b_223_118_2 rfl rfl ?_
        refine ov_iald d_223_121 (zb_96 I87) (zs_96 I87) (by omega) ?_
        show ov_R u d ov_m223 122 [(0, ov_r 90), (1, ov_i v5), (2, ov_i v41), (3, ov_i v78), (4, ov_i ((566 + (6 * v41)) + v5))] [ov_i ((ov_up h57 90 7 ((h57 90 7) + 1)) 96 ((566 + (6 * v41)) + v5)), ov_i ((566 + (6 * v41)) + v5), ov_r 96] z56 (ov_up h57 90 7 ((h57 90 7) + 1)) (P_Mo_readBar_90 F z h n)
        rw [show (ov_up h57 90 7 ((h57 90 7) + 1)) 96 = h 96 from E63]
        refine ov_blk (ls2 := [(0, ov_r 90), (1, ov_i v5), (2, ov_i v41), (3, ov_i v78), (4, ov_i ((566 + (6 * v41)) + v5))]) (st2 := [ov_i (ov_or (h 96 ((566 + (6 * v41)) + v5)) (ov_shl 1 v78)), ov_i ((566 + (6 * v41)) + v5), ov_r 96]) (pc2 := 126) b_223_122_4 rfl rfl ?_
        have g89 := ov_shlg 1 v78
        have g90 := ov_org (h 96 ((566 + (6 * v41)) + v5)) (ov_shl 1 v78)
        refine ov_iast d_223_126 (zb_96 I87) (zs_96 I87) (by omega) ?_
        have I91 := ua_96 (k := ((566 + (6 * v41)) + v5)) (x := (ov_or (h 96 ((566 + (6 * v41)) + v5)) (ov_shl 1 v78))) I87 (by refine ⟨?_, ?_, ?_, ?_, ?_, ?_, ?_, ?_, ?_, ?_, ?_, ?_, ?_, ?_, ?_, ?_, ?_, ?_, ?_, ?_, ?_, ?_, ?_, ?_, ?_, ?_, ?_, ?_, ?_⟩ <;> omega)
        have R92 : ov_RD (h 96) (h 97) (h 98) (h 90 13) ((ov_up h57 90 7 ((h57 90 7) + 1)) 96) ((ov_up h57 90 7 ((h57 90 7) + 1)) 97) ((ov_up h57 90 7 ((h57 90 7) + 1)) 98) (h 90 13) := by rw [show (ov_up h57 90 7 ((h57 90 7) + 1)) 96 = h 96 from E63, show (ov_up h57 90 7 ((h57 90 7) + 1)) 97 = h 97 from E64, show (ov_up h57 90 7 ((h57 90 7) + 1)) 98 = h 98 from E65]; exact ov_RD_refl _ _ _ _
        have R93 : ov_RD (h 96) (h 97) (h 98) (h 90 13) ((ov_up (ov_up h57 90 7 ((h57 90 7) + 1)) 96 ((566 + (6 * v41)) + v5) (ov_or (h 96 ((566 + (6 * v41)) + v5)) (ov_shl 1 v78))) 96) ((ov_up (ov_up h57 90 7 ((h57 90 7) + 1)) 96 ((566 + (6 * v41)) + v5) (ov_or (h 96 ((566 + (6 * v41)) + v5)) (ov_shl 1 v78))) 97) ((ov_up (ov_up h57 90 7 ((h57 90 7) + 1)) 96 ((566 + (6 * v41)) + v5) (ov_or (h 96 ((566 + (6 * v41)) + v5)) (ov_shl 1 v78))) 98) (h 90 13) := by rw [ov_up_row]; exact ov_RD_w R92 (t96_348 I87).2 (by omega)
        have lt94 : ((ov_up (ov_up h57 90 7 ((h57 90 7) + 1)) 96 ((566 + (6 * v41)) + v5) (ov_or (h 96 ((566 + (6 * v41)) + v5)) (ov_shl 1 v78))) 96 340) = h57 96 340 := by try rw [ov_up_j (by omega)]; try show h57 96 340 = _; try rfl
        have lt95 : h57 96 340 = h 96 340 := congrFun E63 340
        have lt96 : ((ov_up (ov_up h57 90 7 ((h57 90 7) + 1)) 96 ((566 + (6 * v41)) + v5) (ov_or (h 96 ((566 + (6 * v41)) + v5)) (ov_shl 1 v78))) 96 341) = h57 96 341 := by try rw [ov_up_j (by omega)]; try show h57 96 341 = _; try rfl
        have lt97 : h57 96 341 = h 96 341 := congrFun E63 341
        have lt98 : ((ov_up (ov_up h57 90 7 ((h57 90 7) + 1)) 96 ((566 + (6 * v41)) + v5) (ov_or (h 96 ((566 + (6 * v41)) + v5)) (ov_shl 1 v78))) 96 342) = h57 96 342 := by try rw [ov_up_j (by omega)]; try show h57 96 342 = _; try rfl
        have lt99 : h57 96 342 = h 96 342 := congrFun E63 342
        have lt100 : ((ov_up (ov_up h57 90 7 ((h57 90 7) + 1)) 96 ((566 + (6 * v41)) + v5) (ov_or (h 96 ((566 + (6 * v41)) + v5)) (ov_shl 1 v78))) 96 348) = h57 96 348 := by try rw [ov_up_j (by omega)]; try show h57 96 348 = _; try rfl
        have lt101 : h57 96 348 = h 96 348 := congrFun E63 348
        have lt102 : ((ov_up (ov_up h57 90 7 ((h57 90 7) + 1)) 96 ((566 + (6 * v41)) + v5) (ov_or (h 96 ((566 + (6 * v41)) + v5)) (ov_shl 1 v78))) 96 349) = h57 96 349 := by try rw [ov_up_j (by omega)]; try show h57 96 349 = _; try rfl
        have lt103 : h57 96 349 = h 96 349 := congrFun E63 349
        have cf104 : h57 96 340 = h 96 340 := congrFun E63 340
        have cf105 : h57 96 341 = h 96 341 := congrFun E63 341
        have cf106 : h57 96 342 = h 96 342 := congrFun E63 342
        have cf107 : h57 96 349 = h 96 349 := congrFun E63 349
        exact ov_retv (st := []) d_223_127 rfl ⟨rfl, I91, (by show (h57 90 2) = (h 90 2) ∧ (h57 90 13) = (h 90 13) ∧ (h57 90 20) = (h 90 20) ∧ (h57 90 22) = (h 90 22) ∧ (h57 90 25) = (h 90 25) ∧ (h57 90 26) = (h 90 26) ∧ (h57 90 28) = (h 90 28) ∧ (h57 90 29) = (h 90 29) ∧ (h57 90 30) = (h 90 30) ∧ (h57 90 34) = (h 90 34) ∧ (h 90 7) ≤ ((h57 90 7) + 1) ∧ ((h57 90 7) + 1) ≤ n ∧ (h 90 13) ≤ (h57 90 13) ∧ (h57 90 13) - (h 90 13) ≤ ((h57 90 7) + 1) - (h 90 7) ∧ ((ov_up (ov_up h57 90 7 ((h57 90 7) + 1)) 96 ((566 + (6 * v41)) + v5) (ov_or (h 96 ((566 + (6 * v41)) + v5)) (ov_shl 1 v78))) 96 340) = (h 96 340) ∧ ((ov_up (ov_up h57 90 7 ((h57 90 7) + 1)) 96 ((566 + (6 * v41)) + v5) (ov_or (h 96 ((566 + (6 * v41)) + v5)) (ov_shl 1 v78))) 96 341) = (h 96 341) ∧ ((h57 90 8) = 0 → 1 ≤ (h 96 342) → 1 ≤ ((ov_up (ov_up h57 90 7 ((h57 90 7) + 1)) 96 ((566 + (6 * v41)) + v5) (ov_or (h 96 ((566 + (6 * v41)) + v5)) (ov_shl 1 v78))) 96 342)) ∧ (1 ≤ (h 96 349) → 1 ≤ ((ov_up (ov_up h57 90 7 ((h57 90 7) + 1)) 96 ((566 + (6 * v41)) + v5) (ov_or (h 96 ((566 + (6 * v41)) + v5)) (ov_shl 1 v78))) 96 349)); omega), E59, E60, E61, E62, E64, E65, E66, E67, E68, E69, E70, E71, E72, R93.1, R93.2.1, (fun _ w => by show ov_CS ((ov_up (ov_up h57 90 7 ((h57 90 7) + 1)) 96 ((566 + (6 * v41)) + v5) (ov_or (h 96 ((566 + (6 * v41)) + v5)) (ov_shl 1 v78))) 96) ((ov_up (ov_up h57 90 7 ((h57 90 7) + 1)) 96 ((566 + (6 * v41)) + v5) (ov_or (h 96 ((566 + (6 * v41)) + v5)) (ov_shl 1 v78))) 97) ((ov_up (ov_up h57 90 7 ((h57 90 7) + 1)) 96 ((566 + (6 * v41)) + v5) (ov_or (h 96 ((566 + (6 * v41)) + v5)) (ov_shl 1 v78))) 98) (h57 90 13); rw [show (h57 90 13) = h 90 13 by omega]; exact R93.2.2 w)⟩
      · skip
        refine ov_blk (ls2 := [(0, ov_r 90), (1, ov_i v5), (2, ov_i v41), (3, ov_i v78), (4, ov_i ((566 + (6 * v41)) + v5))]) (st2 := [ov_i 3, ov_r 90]) (pc2 := 100) b_223_98_2 rfl rfl ?_
        refine ov_cV (as := [ov_i 3]) (st := []) (d2 := d - 1) d_223_100 lk_Mo_186 rfl (Nat.le_of_ble_eq_true rfl) (c := 1) (zb_90 I58) (zs_90 I58) ⟨by decide, rfl⟩ (by omega) (c_Mo_wrong_90 (d - 1) (by omega) U I58 3 (by omega) (by omega)) ?_
        rintro _ z123 h124 ⟨rfl, I125, f108, e109, e110, e111, e112, e113, e114, e115, e116, e117, e118, e119, e120, e121, e122⟩
        have E126 : h124 92 = h 92 := Eq.trans e109 E59
        have E127 : h124 93 = h 93 := Eq.trans e110 E60
        have E128 : h124 94 = h 94 := Eq.trans e111 E61
        have E129 : h124 95 = h 95 := Eq.trans e112 E62
        have E130 : h124 96 = h 96 := Eq.trans e113 E63
        have E131 : h124 97 = h 97 := Eq.trans e114 E64
        have E132 : h124 98 = h 98 := Eq.trans e115 E65
        have E133 : h124 99 = h 99 := Eq.trans e116 E66
        have E134 : h124 100 = h 100 := Eq.trans e117 E67
        have E135 : h124 103 = h 103 := Eq.trans e118 E68
        have E136 : h124 105 = h 105 := Eq.trans e119 E69
        have E137 : h124 106 = h 106 := Eq.trans e120 E70
        have E138 : h124 109 = h 109 := Eq.trans e121 E71
        have E139 : h124 114 = h 114 := Eq.trans e122 E72
        show ov_R u d ov_m223 103 [(0, ov_r 90), (1, ov_i v5), (2, ov_i v41), (3, ov_i v78), (4, ov_i ((566 + (6 * v41)) + v5))] [] z123 h124 (P_Mo_readBar_90 F z h n)
        have f140 : (h124 90 2) = (h57 90 2) ∧ (h124 90 7) = (h57 90 7) ∧ (h124 90 13) = (h57 90 13) ∧ (h124 90 20) = (h57 90 20) ∧ (h124 90 22) = (h57 90 22) ∧ (h124 90 25) = (h57 90 25) ∧ (h124 90 26) = (h57 90 26) ∧ (h124 90 28) = (h57 90 28) ∧ (h124 90 29) = (h57 90 29) ∧ (h124 90 30) = (h57 90 30) ∧ (h124 90 34) = (h57 90 34) ∧ 0 < (h124 90 8) ∧ (h57 90 8) ≤ (h124 90 8) := f108
        clear f108
        have cf141 : h124 96 340 = h 96 340 := congrFun E130 340
        have cf142 : h124 96 341 = h 96 341 := congrFun E130 341
        have cf143 : h124 96 342 = h 96 342 := congrFun E130 342
        have cf144 : h124 96 349 = h 96 349 := congrFun E130 349
        have R145 : ov_RD (h 96) (h 97) (h 98) (h 90 13) (h124 96) (h124 97) (h124 98) (h 90 13) := by rw [show h124 96 = h 96 from E130, show h124 97 = h 97 from E131, show h124 98 = h 98 from E132]; exact ov_RD_refl _ _ _ _
        exact ov_retv (st := []) d_223_103 rfl ⟨rfl, I125, (by show (h124 90 2) = (h 90 2) ∧ (h124 90 13) = (h 90 13) ∧ (h124 90 20) = (h 90 20) ∧ (h124 90 22) = (h 90 22) ∧ (h124 90 25) = (h 90 25) ∧ (h124 90 26) = (h 90 26) ∧ (h124 90 28) = (h 90 28) ∧ (h124 90 29) = (h 90 29) ∧ (h124 90 30) = (h 90 30) ∧ (h124 90 34) = (h 90 34) ∧ (h 90 7) ≤ (h124 90 7) ∧ (h124 90 7) ≤ n ∧ (h 90 13) ≤ (h124 90 13) ∧ (h124 90 13) - (h 90 13) ≤ (h124 90 7) - (h 90 7) ∧ (h124 96 340) = (h 96 340) ∧ (h124 96 341) = (h 96 341) ∧ ((h124 90 8) = 0 → 1 ≤ (h 96 342) → 1 ≤ (h124 96 342)) ∧ (1 ≤ (h 96 349) → 1 ≤ (h124 96 349)); omega), E126, E127, E128, E129, E131, E132, E133, E134, E135, E136, E137, E138, E139, R145.1, R145.2.1, (fun _ w => by show ov_CS (h124 96) (h124 97) (h124 98) (h124 90 13); rw [show (h124 90 13) = h 90 13 by omega]; exact R145.2.2 w)⟩
    · skip
      refine ov_blk (ls2 := [(0, ov_r 90), (1, ov_i v5), (2, ov_i v41), (3, ov_i v78)]) (st2 := [ov_i 1, ov_r 90]) (pc2 := 67) b_223_65_2 rfl rfl ?_
      refine ov_cV (as := [ov_i 1]) (st := []) (d2 := d - 1) d_223_67 lk_Mo_186 rfl (Nat.le_of_ble_eq_true rfl) (c := 1) (zb_90 I58) (zs_90 I58) ⟨by decide, rfl⟩ (by omega) (c_Mo_wrong_90 (d - 1) (by omega) U I58 1 (by omega) (by omega)) ?_
      rintro _ z161 h162 ⟨rfl, I163, f146, e147, e148, e149, e150, e151, e152, e153, e154, e155, e156, e157, e158, e159, e160⟩
      have E164 : h162 92 = h 92 := Eq.trans e147 E59
      have E165 : h162 93 = h 93 := Eq.trans e148 E60
      have E166 : h162 94 = h 94 := Eq.trans e149 E61
      have E167 : h162 95 = h 95 := Eq.trans e150 E62
      have E168 : h162 96 = h 96 := Eq.trans e151 E63
      have E169 : h162 97 = h 97 := Eq.trans e152 E64
      have E170 : h162 98 = h 98 := Eq.trans e153 E65
      have E171 : h162 99 = h 99 := Eq.trans e154 E66
      have E172 : h162 100 = h 100 := Eq.trans e155 E67
      have E173 : h162 103 = h 103 := Eq.trans e156 E68
      have E174 : h162 105 = h 105 := Eq.trans e157 E69
      have E175 : h162 106 = h 106 := Eq.trans e158 E70
      have E176 : h162 109 = h 109 := Eq.trans e159 E71
      have E177 : h162 114 = h 114 := Eq.trans e160 E72
      show ov_R u d ov_m223 70 [(0, ov_r 90), (1, ov_i v5), (2, ov_i v41), (3, ov_i v78)] [] z161 h162 (P_Mo_readBar_90 F z h n)
      have f178 : (h162 90 2) = (h57 90 2) ∧ (h162 90 7) = (h57 90 7) ∧ (h162 90 13) = (h57 90 13) ∧ (h162 90 20) = (h57 90 20) ∧ (h162 90 22) = (h57 90 22) ∧ (h162 90 25) = (h57 90 25) ∧ (h162 90 26) = (h57 90 26) ∧ (h162 90 28) = (h57 90 28) ∧ (h162 90 29) = (h57 90 29) ∧ (h162 90 30) = (h57 90 30) ∧ (h162 90 34) = (h57 90 34) ∧ 0 < (h162 90 8) ∧ (h57 90 8) ≤ (h162 90 8) := f146
      clear f146
      have cf179 : h162 96 340 = h 96 340 := congrFun E168 340
      have cf180 : h162 96 341 = h 96 341 := congrFun E168 341
      have cf181 : h162 96 342 = h 96 342 := congrFun E168 342
      have cf182 : h162 96 349 = h 96 349 := congrFun E168 349
      have R183 : ov_RD (h 96) (h 97) (h 98) (h 90 13) (h162 96) (h162 97) (h162 98) (h 90 13) := by rw [show h162 96 = h 96 from E168, show h162 97 = h 97 from E169, show h162 98 = h 98 from E170]; exact ov_RD_refl _ _ _ _
      exact ov_retv (st := []) d_223_70 rfl ⟨rfl, I163, (by show (h162 90 2) = (h 90 2) ∧ (h162 90 13) = (h 90 13) ∧ (h162 90 20) = (h 90 20) ∧ (h162 90 22) = (h 90 22) ∧ (h162 90 25) = (h 90 25) ∧ (h162 90 26) = (h 90 26) ∧ (h162 90 28) = (h 90 28) ∧ (h162 90 29) = (h 90 29) ∧ (h162 90 30) = (h 90 30) ∧ (h162 90 34) = (h 90 34) ∧ (h 90 7) ≤ (h162 90 7) ∧ (h162 90 7) ≤ n ∧ (h 90 13) ≤ (h162 90 13) ∧ (h162 90 13) - (h 90 13) ≤ (h162 90 7) - (h 90 7) ∧ (h162 96 340) = (h 96 340) ∧ (h162 96 341) = (h 96 341) ∧ ((h162 90 8) = 0 → 1 ≤ (h 96 342) → 1 ≤ (h162 96 342)) ∧ (1 ≤ (h 96 349) → 1 ≤ (h162 96 349)); omega), E164, E165, E166, E167, E169, E170, E171, E172, E173, E174, E175, E176, E177, R183.1, R183.2.1, (fun _ w => by show ov_CS (h162 96) (h162 97) (h162 98) (h162 90 13); rw [show (h162 90 13) = h 90 13 by omega]; exact R183.2.2 w)⟩
  · skip
    refine ov_blk (ls2 := [(0, ov_r 90), (1, ov_i v5), (2, ov_i v41)]) (st2 := [ov_i (-1)]) (pc2 := 50) b_223_49_1 rfl rfl ?_
    refine ov_goto (tgt := 60) d_223_50 (by decide) ?_
    refine ov_blk (ls2 := [(0, ov_r 90), (1, ov_i v5), (2, ov_i v41), (3, ov_i (-1))]) (st2 := [ov_i (-1)]) (pc2 := 62) b_223_60_2 rfl rfl ?_
    refine ov_ifge (tgt := 71) d_223_62 (by decide) (by omega) (fun c184 => ?_) (fun c184 => ?_)
    · omega
    · skip
      refine ov_blk (ls2 := [(0, ov_r 90), (1, ov_i v5), (2, ov_i v41), (3, ov_i (-1))]) (st2 := [ov_i 1, ov_r 90]) (pc2 := 67) b_223_65_2 rfl rfl ?_
      refine ov_cV (as := [ov_i 1]) (st := []) (d2 := d - 1) d_223_67 lk_Mo_186 rfl (Nat.le_of_ble_eq_true rfl) (c := 1) (zb_90 I58) (zs_90 I58) ⟨by decide, rfl⟩ (by omega) (c_Mo_wrong_90 (d - 1) (by omega) U I58 1 (by omega) (by omega)) ?_
      rintro _ z200 h201 ⟨rfl, I202, f185, e186, e187, e188, e189, e190, e191, e192, e193, e194, e195, e196, e197, e198, e199⟩
      have E203 : h201 92 = h 92 := Eq.trans e186 E59
      have E204 : h201 93 = h 93 := Eq.trans e187 E60
      have E205 : h201 94 = h 94 := Eq.trans e188 E61
      have E206 : h201 95 = h 95 := Eq.trans e189 E62
      have E207 : h201 96 = h 96 := Eq.trans e190 E63
      have E208 : h201 97 = h 97 := Eq.trans e191 E64
      have E209 : h201 98 = h 98 := Eq.trans e192 E65
      have E210 : h201 99 = h 99 := Eq.trans e193 E66
      have E211 : h201 100 = h 100 := Eq.trans e194 E67
      have E212 : h201 103 = h 103 := Eq.trans e195 E68
      have E213 : h201 105 = h 105 := Eq.trans e196 E69
      have E214 : h201 106 = h 106 := Eq.trans e197 E70
      have E215 : h201 109 = h 109 := Eq.trans e198 E71
      have E216 : h201 114 = h 114 := Eq.trans e199 E72
      show ov_R u d ov_m223 70 [(0, ov_r 90), (1, ov_i v5), (2, ov_i v41), (3, ov_i (-1))] [] z200 h201 (P_Mo_readBar_90 F z h n)
      have f217 : (h201 90 2) = (h57 90 2) ∧ (h201 90 7) = (h57 90 7) ∧ (h201 90 13) = (h57 90 13) ∧ (h201 90 20) = (h57 90 20) ∧ (h201 90 22) = (h57 90 22) ∧ (h201 90 25) = (h57 90 25) ∧ (h201 90 26) = (h57 90 26) ∧ (h201 90 28) = (h57 90 28) ∧ (h201 90 29) = (h57 90 29) ∧ (h201 90 30) = (h57 90 30) ∧ (h201 90 34) = (h57 90 34) ∧ 0 < (h201 90 8) ∧ (h57 90 8) ≤ (h201 90 8) := f185
      clear f185
      have cf218 : h201 96 340 = h 96 340 := congrFun E207 340
      have cf219 : h201 96 341 = h 96 341 := congrFun E207 341
      have cf220 : h201 96 342 = h 96 342 := congrFun E207 342
      have cf221 : h201 96 349 = h 96 349 := congrFun E207 349
      have R222 : ov_RD (h 96) (h 97) (h 98) (h 90 13) (h201 96) (h201 97) (h201 98) (h 90 13) := by rw [show h201 96 = h 96 from E207, show h201 97 = h 97 from E208, show h201 98 = h 98 from E209]; exact ov_RD_refl _ _ _ _
      exact ov_retv (st := []) d_223_70 rfl ⟨rfl, I202, (by show (h201 90 2) = (h 90 2) ∧ (h201 90 13) = (h 90 13) ∧ (h201 90 20) = (h 90 20) ∧ (h201 90 22) = (h 90 22) ∧ (h201 90 25) = (h 90 25) ∧ (h201 90 26) = (h 90 26) ∧ (h201 90 28) = (h 90 28) ∧ (h201 90 29) = (h 90 29) ∧ (h201 90 30) = (h 90 30) ∧ (h201 90 34) = (h 90 34) ∧ (h 90 7) ≤ (h201 90 7) ∧ (h201 90 7) ≤ n ∧ (h 90 13) ≤ (h201 90 13) ∧ (h201 90 13) - (h 90 13) ≤ (h201 90 7) - (h 90 7) ∧ (h201 96 340) = (h 96 340) ∧ (h201 96 341) = (h 96 341) ∧ ((h201 90 8) = 0 → 1 ≤ (h 96 342) → 1 ≤ (h201 96 342)) ∧ (1 ≤ (h 96 349) → 1 ≤ (h201 96 349)); omega), E203, E204, E205, E206, E208, E209, E210, E211, E212, E213, E214, E215, E216, R222.1, R222.2.1, (fun _ w => by show ov_CS (h201 96) (h201 97) (h201 98) (h201 90 13); rw [show (h201 90 13) = h 90 13 by omega]; exact R222.2.2 w)⟩
abbrev P_Mo_readLight_90 (F : ov_H × ov_Z) (z : ov_Z) (h : ov_H) (n : Int) : Option ov_V → ov_Z → ov_H → Prop := fun r0 z' h' => r0 = none ∧ ov_N F z' h' ∧ ((h' 90 2) = (h 90 2) ∧ (h' 90 13) = (h 90 13) ∧ (h' 90 20) = (h 90 20) ∧ (h' 90 22) = (h 90 22) ∧ (h' 90 25) = (h 90 25) ∧ (h' 90 26) = (h 90 26) ∧ (h' 90 28) = (h 90 28) ∧ (h' 90 29) = (h 90 29) ∧ (h' 90 30) = (h 90 30) ∧ (h' 90 34) = (h 90 34) ∧ (h 90 7) ≤ (h' 90 7) ∧ (h' 90 7) ≤ n ∧ (h 90 13) ≤ (h' 90 13) ∧ (h' 90 13) - (h 90 13) ≤ (h' 90 7) - (h 90 7) ∧ (h' 96 340) = (h 96 340) ∧ (h' 96 341) = (h 96 341) ∧ ((h' 90 8) = 0 → 1 ≤ (h 96 342) → 1 ≤ (h' 96 342)) ∧ (1 ≤ (h 96 349) → 1 ≤ (h' 96 349))) ∧ h' 92 = h 92 ∧ h' 93 = h 93 ∧ h' 94 = h 94 ∧ h' 95 = h 95 ∧ h' 97 = h 97 ∧ h' 98 = h 98 ∧ h' 99 = h 99 ∧ h' 100 = h 100 ∧ h' 103 = h 103 ∧ h' 105 = h 105 ∧ h' 106 = h 106 ∧ h' 109 = h 109 ∧ h' 114 = h 114 ∧ (ov_MK (h 96) (h 97) (h 98) (h' 96) (h' 97) (h' 98)) ∧ (ov_WS (h 96) → ov_WS (h' 96)) ∧ ((h' 90 8) = 0 → ov_CS (h 96) (h 97) (h 98) (h 90 13) → ov_CS (h' 96) (h' 97) (h' 98) (h' 90 13))
set_option maxHeartbeats 4000000 in
theorem c_Mo_readLight_90 {u : ov_U} {F : ov_H × ov_Z} (n : Int) {z : ov_Z} {h : ov_H} (d : Nat) (hd : 4 ≤ d) (U : ov_cap u) (I : ov_N F z h) (p0 : 0 ≤ n ∧ n ≤ 1000 ∧ (h 92 (n)) = 0 ∧ (h 90 7) ≤ n) (p1 : (h 90 13) ≤ (h 90 7)) (p2 : (h 90 8) = 0) (p3 : (h 90 7) < n) : ov_T u d ov_m219 [ov_r 90] z h (P_Mo_readLight_90 F z h n) := by
  refine ov_en rfl (Nat.le_of_ble_eq_true rfl) ?_
  show ov_R u d ov_m219 0 [(0, ov_r 90)] [] z h (P_Mo_readLight_90 F z h n)
  refine ov_blk (ls2 := [(0, ov_r 90)]) (st2 := [ov_r 90, ov_r 90]) (pc2 := 2) b_219_0_2 rfl rfl ?_
  refine ov_getf (v := ov_i (h 90 7)) d_219_2 fl_Mo_177 (zb_90 I) (zs_90 I) rfl ?_
  have g1 := rg_90_7 I
  refine ov_blk (ls2 := [(0, ov_r 90)]) (st2 := [ov_i ((h 90 7) + 1), ov_r 90]) (pc2 := 7) b_219_5_2 rfl rfl ?_
  refine ov_putf (x := ((h 90 7) + 1)) d_219_7 fl_Mo_177 (zb_90 I) (zs_90 I) rfl nk_0 rfl ?_
  have I2 := up_90_7 (x := ((h 90 7) + 1)) I (by omega)
  refine ov_blk (ls2 := [(0, ov_r 90)]) (st2 := [ov_r 90, ov_i 0, ov_r 90]) (pc2 := 13) b_219_10_3 rfl rfl ?_
  refine ov_getf (v := ov_r 96) d_219_13 fl_Mo_81 (zb_90 I2) (zs_90 I2) (congrArg ov_r (rg_90_10 I2)) ?_
  refine ov_blk (ls2 := [(0, ov_r 90)]) (st2 := [ov_i 340, ov_r 96, ov_i 0, ov_r 90]) (pc2 := 19) b_219_16_1 rfl rfl ?_
  refine ov_iald d_219_19 (zb_96 I2) (zs_96 I2) (by omega) ?_
  show ov_R u d ov_m219 20 [(0, ov_r 90)] [ov_i (h 96 340), ov_i 0, ov_r 90] z (ov_up h 90 7 ((h 90 7) + 1)) (P_Mo_readLight_90 F z h n)
  have g3 := t96_340 I
  refine ov_blk (ls2 := [(0, ov_r 90)]) (st2 := [ov_i ((h 96 340) - 1), ov_i 0, ov_r 90]) (pc2 := 22) b_219_20_2 rfl rfl ?_
  refine ov_cV (as := [ov_i 0, ov_i ((h 96 340) - 1)]) (st := []) (d2 := d - 1) d_219_22 lk_Mo_198 rfl (Nat.le_of_ble_eq_true rfl) (c := 1) (zb_90 I2) (zs_90 I2) ⟨by decide, rfl⟩ (by omega) (c_Mo_takeNumber_90 n (d - 1) (by omega) U I2 0 ((h 96 340) - 1) (by omega) (by omega) (by show 0 ≤ n ∧ n ≤ 1000 ∧ (h 92 (n)) = 0 ∧ ((h 90 7) + 1) ≤ n; omega)) ?_
  rintro _ z20 h21 ⟨v5, rfl, I22, f4, e6, e7, e8, e9, e10, e11, e12, e13, e14, e15, e16, e17, e18, e19⟩
  have E23 : h21 92 = h 92 := e6
  have E24 : h21 93 = h 93 := e7
  have E25 : h21 94 = h 94 := e8
  have E26 : h21 95 = h 95 := e9
  have E27 : h21 96 = h 96 := e10
  have E28 : h21 97 = h 97 := e11
  have E29 : h21 98 = h 98 := e12
  have E30 : h21 99 = h 99 := e13
  have E31 : h21 100 = h 100 := e14
  have E32 : h21 103 = h 103 := e15
  have E33 : h21 105 = h 105 := e16
  have E34 : h21 106 = h 106 := e17
  have E35 : h21 109 = h 109 := e18
  have E36 : h21 114 = h 114 := e19
  show ov_R u d ov_m219 25 [(0, ov_r 90)] [ov_i v5] z20 h21 (P_Mo_readLight_90 F z h n)
  have f37 : (h21 90 2) = (h 90 2) ∧ (h21 90 13) = (h 90 13) ∧ (h21 90 20) = (h 90 20) ∧ (h21 90 22) = (h 90 22) ∧ (h21 90 25) = (h 90 25) ∧ (h21 90 26) = (h 90 26) ∧ (h21 90 28) = (h 90 28) ∧ (h21 90 29) = (h 90 29) ∧ (h21 90 30) = (h 90 30) ∧ (h21 90 34) = (h 90 34) ∧ ((h 90 7) + 1) ≤ (h21 90 7) ∧ (h21 90 7) ≤ n ∧ (h 90 8) ≤ (h21 90 8) ∧ ((h21 90 8) = 0 → (0 : Int) ≤ v5 ∧ v5 ≤ ((h 96 340) - 1)) ∧ (0 < (h21 90 8) → v5 = 0) ∧ ((h 90 7) + 1) < (h21 90 7) + (h21 90 8) := f4
  clear f4
  refine ov_blk (ls2 := [(0, ov_r 90), (1, ov_i v5)]) (st2 := [ov_r 90, ov_i 0, ov_r 90]) (pc2 := 29) b_219_25_4 rfl rfl ?_
  refine ov_getf (v := ov_r 96) d_219_29 fl_Mo_81 (zb_90 I22) (zs_90 I22) (congrArg ov_r (rg_90_10 I22)) ?_
  refine ov_blk (ls2 := [(0, ov_r 90), (1, ov_i v5)]) (st2 := [ov_i 341, ov_r 96, ov_i 0, ov_r 90]) (pc2 := 35) b_219_32_1 rfl rfl ?_
  refine ov_iald d_219_35 (zb_96 I22) (zs_96 I22) (by omega) ?_
  rw [show h21 96 = h 96 from E27]
  have g38 := t96_341 I
  refine ov_blk (ls2 := [(0, ov_r 90), (1, ov_i v5)]) (st2 := [ov_i ((h 96 341) - 1), ov_i 0, ov_r 90]) (pc2 := 38) b_219_36_2 rfl rfl ?_
  have cf39 : h21 92 (n) = h 92 (n) := congrFun E23 (n)
  refine ov_cV (as := [ov_i 0, ov_i ((h 96 341) - 1)]) (st := []) (d2 := d - 1) d_219_38 lk_Mo_198 rfl (Nat.le_of_ble_eq_true rfl) (c := 1) (zb_90 I22) (zs_90 I22) ⟨by decide, rfl⟩ (by omega) (c_Mo_takeNumber_90 n (d - 1) (by omega) U I22 0 ((h 96 341) - 1) (by omega) (by omega) (by show 0 ≤ n ∧ n ≤ 1000 ∧ (h21 92 (n)) = 0 ∧ (h21 90 7) ≤ n; omega)) ?_
  rintro _ z56 h57 ⟨v41, rfl, I58, f40, e42, e43, e44, e45, e46, e47, e48, e49, e50, e51, e52, e53, e54, e55⟩
  have E59 : h57 92 = h 92 := Eq.trans e42 E23
  have E60 : h57 93 = h 93 := Eq.trans e43 E24
  have E61 : h57 94 = h 94 := Eq.trans e44 E25
  have E62 : h57 95 = h 95 := Eq.trans e45 E26
  have E63 : h57 96 = h 96 := Eq.trans e46 E27
  have E64 : h57 97 = h 97 := Eq.trans e47 E28
  have E65 : h57 98 = h 98 := Eq.trans e48 E29
  have E66 : h57 99 = h 99 := Eq.trans e49 E30
  have E67 : h57 100 = h 100 := Eq.trans e50 E31
  have E68 : h57 103 = h 103 := Eq.trans e51 E32
  have E69 : h57 105 = h 105 := Eq.trans e52 E33
  have E70 : h57 106 = h 106 := Eq.trans e53 E34
  have E71 : h57 109 = h 109 := Eq.trans e54 E35
  have E72 : h57 114 = h 114 := Eq.trans e55 E36
  show ov_R u d ov_m219 41 [(0, ov_r 90), (1, ov_i v5)] [ov_i v41] z56 h57 (P_Mo_readLight_90 F z h n)
  have f73 : (h57 90 2) = (h21 90 2) ∧ (h57 90 13) = (h21 90 13) ∧ (h57 90 20) = (h21 90 20) ∧ (h57 90 22) = (h21 90 22) ∧ (h57 90 25) = (h21 90 25) ∧ (h57 90 26) = (h21 90 26) ∧ (h57 90 28) = (h21 90 28) ∧ (h57 90 29) = (h21 90 29) ∧ (h57 90 30) = (h21 90 30) ∧ (h57 90 34) = (h21 90 34) ∧ (h21 90 7) ≤ (h57 90 7) ∧ (h57 90 7) ≤ n ∧ (h21 90 8) ≤ (h57 90 8) ∧ ((h57 90 8) = 0 → (0 : Int) ≤ v41 ∧ v41 ≤ ((h 96 341) - 1)) ∧ (0 < (h57 90 8) → v41 = 0) ∧ (h21 90 7) < (h57 90 7) + (h57 90 8) := f40
  clear f40
  refine ov_blk (ls2 := [(0, ov_r 90), (1, ov_i v5), (2, ov_i v41), (3, ov_i (350 + (4 * ((6 * v41) + v5))))]) (st2 := [ov_r 90]) (pc2 := 56) b_219_41_12 rfl rfl ?_
  refine ov_getf (v := ov_i (h57 90 8)) d_219_56 fl_Mo_180 (zb_90 I58) (zs_90 I58) rfl ?_
  have g74 := rg_90_8 I58
  refine ov_ifne (tgt := 86) d_219_59 (by decide) (by omega) (fun c75 => ?_) (fun c75 => ?_)
  · skip
    refine ov_blk (ls2 := [(0, ov_r 90), (1, ov_i v5), (2, ov_i v41), (3, ov_i (350 + (4 * ((6 * v41) + v5))))]) (st2 := [ov_r 90]) (pc2 := 87) b_219_86_1 rfl rfl ?_
    refine ov_getf (v := ov_i (h57 90 8)) d_219_87 fl_Mo_180 (zb_90 I58) (zs_90 I58) rfl ?_
    refine ov_ifle (tgt := 97) d_219_90 (by decide) (by omega) (fun c77 => ?_) (fun c77 => ?_)
    · omega
    · skip
      refine ov_blk (ls2 := [(0, ov_r 90), (1, ov_i v5), (2, ov_i v41), (3, ov_i (350 + (4 * ((6 * v41) + v5))))]) (st2 := [ov_i (-1)]) (pc2 := 94) b_219_93_1 rfl rfl ?_
      refine ov_goto (tgt := 104) d_219_94 (by decide) ?_
      refine ov_blk (ls2 := [(0, ov_r 90), (1, ov_i v5), (2, ov_i v41), (3, ov_i (350 + (4 * ((6 * v41) + v5)))), (4, ov_i (-1))]) (st2 := [ov_i (-1)]) (pc2 := 108) b_219_104_2 rfl rfl ?_
      refine ov_ifge (tgt := 117) d_219_108 (by decide) (by omega) (fun c78 => ?_) (fun c78 => ?_)
      · omega
      · skip
        refine ov_blk (ls2 := [(0, ov_r 90), (1, ov_i v5), (2, ov_i v41), (3, ov_i (350 + (4 * ((6 * v41) + v5)))), (4, ov_i (-1))]) (st2 := [ov_i 1, ov_r 90]) (pc2 := 113) b_219_111_2 rfl rfl ?_
        refine ov_cV (as := [ov_i 1]) (st := []) (d2 := d - 1) d_219_113 lk_Mo_186 rfl (Nat.le_of_ble_eq_true rfl) (c := 1) (zb_90 I58) (zs_90 I58) ⟨by decide, rfl⟩ (by omega) (c_Mo_wrong_90 (d - 1) (by omega) U I58 1 (by omega) (by omega)) ?_
        rintro _ z94 h95 ⟨rfl, I96, f79, e80, e81, e82, e83, e84, e85, e86, e87, e88, e89, e90, e91, e92, e93⟩
        have E97 : h95 92 = h 92 := Eq.trans e80 E59
        have E98 : h95 93 = h 93 := Eq.trans e81 E60
        have E99 : h95 94 = h 94 := Eq.trans e82 E61
        have E100 : h95 95 = h 95 := Eq.trans e83 E62
        have E101 : h95 96 = h 96 := Eq.trans e84 E63
        have E102 : h95 97 = h 97 := Eq.trans e85 E64
        have E103 : h95 98 = h 98 := Eq.trans e86 E65
        have E104 : h95 99 = h 99 := Eq.trans e87 E66
        have E105 : h95 100 = h 100 := Eq.trans e88 E67
        have E106 : h95 103 = h 103 := Eq.trans e89 E68
        have E107 : h95 105 = h 105 := Eq.trans e90 E69
        have E108 : h95 106 = h 106 := Eq.trans e91 E70
        have E109 : h95 109 = h 109 := Eq.trans e92 E71
        have E110 : h95 114 = h 114 := Eq.trans e93 E72
        show ov_R u d ov_m219 116 [(0, ov_r 90), (1, ov_i v5), (2, ov_i v41), (3, ov_i (350 + (4 * ((6 * v41) + v5)))), (4, ov_i (-1))] [] z94 h95 (P_Mo_readLight_90 F z h n)
        have f111 : (h95 90 2) = (h57 90 2) ∧ (h95 90 7) = (h57 90 7) ∧ (h95 90 13) = (h57 90 13) ∧ (h95 90 20) = (h57 90 20) ∧ (h95 90 22) = (h57 90 22) ∧ (h95 90 25) = (h57 90 25) ∧ (h95 90 26) = (h57 90 26) ∧ (h95 90 28) = (h57 90 28) ∧ (h95 90 29) = (h57 90 29) ∧ (h95 90 30) = (h57 90 30) ∧ (h95 90 34) = (h57 90 34) ∧ 0 < (h95 90 8) ∧ (h57 90 8) ≤ (h95 90 8) := f79
        clear f79
        have cf112 : h95 96 340 = h 96 340 := congrFun E101 340
        have cf113 : h95 96 341 = h 96 341 := congrFun E101 341
        have cf114 : h95 96 342 = h 96 342 := congrFun E101 342
        have cf115 : h95 96 349 = h 96 349 := congrFun E101 349
        have R116 : ov_RD (h 96) (h 97) (h 98) (h 90 13) (h95 96) (h95 97) (h95 98) (h 90 13) := by rw [show h95 96 = h 96 from E101, show h95 97 = h 97 from E102, show h95 98 = h 98 from E103]; exact ov_RD_refl _ _ _ _
        exact ov_retv (st := []) d_219_116 rfl ⟨rfl, I96, (by show (h95 90 2) = (h 90 2) ∧ (h95 90 13) = (h 90 13) ∧ (h95 90 20) = (h 90 20) ∧ (h95 90 22) = (h 90 22) ∧ (h95 90 25) = (h 90 25) ∧ (h95 90 26) = (h 90 26) ∧ (h95 90 28) = (h 90 28) ∧ (h95 90 29) = (h 90 29) ∧ (h95 90 30) = (h 90 30) ∧ (h95 90 34) = (h 90 34) ∧ (h 90 7) ≤ (h95 90 7) ∧ (h95 90 7) ≤ n ∧ (h 90 13) ≤ (h95 90 13) ∧ (h95 90 13) - (h 90 13) ≤ (h95 90 7) - (h 90 7) ∧ (h95 96 340) = (h 96 340) ∧ (h95 96 341) = (h 96 341) ∧ ((h95 90 8) = 0 → 1 ≤ (h 96 342) → 1 ≤ (h95 96 342)) ∧ (1 ≤ (h 96 349) → 1 ≤ (h95 96 349)); omega), E97, E98, E99, E100, E102, E103, E104, E105, E106, E107, E108, E109, E110, R116.1, R116.2.1, (fun _ w => by show ov_CS (h95 96) (h95 97) (h95 98) (h95 90 13); rw [show (h95 90 13) = h 90 13 by omega]; exact R116.2.2 w)⟩
  · skip
    refine ov_blk (ls2 := [(0, ov_r 90), (1, ov_i v5), (2, ov_i v41), (3, ov_i (350 + (4 * ((6 * v41) + v5))))]) (st2 := [ov_r 90]) (pc2 := 63) b_219_62_1 rfl rfl ?_
    refine ov_getf (v := ov_r 96) d_219_63 fl_Mo_81 (zb_90 I58) (zs_90 I58) (congrArg ov_r (rg_90_10 I58)) ?_
    refine ov_blk (ls2 := [(0, ov_r 90), (1, ov_i v5), (2, ov_i v41), (3, ov_i (350 + (4 * ((6 * v41) + v5))))]) (st2 := [ov_i (350 + (4 * ((6 * v41) + v5))), ov_r 96]) (pc2 := 67) b_219_66_1 rfl rfl ?_
    refine ov_iald d_219_67 (zb_96 I58) (zs_96 I58) (by omega) ?_
    rw [show h57 96 = h 96 from E63]
    have g117 := g96 I (350 + (4 * ((6 * v41) + v5)))
    refine ov_ifle (tgt := 86) d_219_68 (by decide) (by omega) (fun c118 => ?_) (fun c118 => ?_)
    · skip
      refine ov_blk (ls2 := [(0, ov_r 90), (1, ov_i v5), (2, ov_i v41), (3, ov_i (350 + (4 * ((6 * v41) + v5))))]) (st2 := [ov_r 90]) (pc2 := 87) b_219_86_1 rfl rfl ?_
      refine ov_getf (v := ov_i (h57 90 8)) d_219_87 fl_Mo_180 (zb_90 I58) (zs_90 I58) rfl ?_
      refine ov_ifle (tgt := 97) d_219_90 (by decide) (by omega) (fun c120 => ?_) (fun c120 => ?_)
      · skip
        refine ov_blk (ls2 := [(0, ov_r 90), (1, ov_i v5), (2, ov_i v41), (3, ov_i (350 + (4 * ((6 * v41) + v5))))]) (st2 := [ov_i 4, ov_i 13, ov_r 90]) (pc2 := 101) b_219_97_3 rfl rfl ?_
        have cf121 : h57 92 (n) = h 92 (n) := congrFun E59 (n)
        refine ov_cV (as := [ov_i 13, ov_i 4]) (st := []) (d2 := d - 1) d_219_101 lk_Mo_202 rfl (Nat.le_of_ble_eq_true rfl) (c := 1) (zb_90 I58) (zs_90 I58) ⟨by decide, rfl⟩ (by omega) (c_Mo_wordHere_90 n (d - 1) (by omega) U I58 13 4 (by omega) (by omega) (by show 0 ≤ n ∧ n ≤ 1000 ∧ (h57 92 (n)) = 0 ∧ (h57 90 7) ≤ n; omega) (by omega)) ?_
        rintro _ _ _ ⟨v123, rfl, rfl, rfl, f122⟩
        show ov_R u d ov_m219 104 [(0, ov_r 90), (1, ov_i v5), (2, ov_i v41), (3, ov_i (350 + (4 * ((6 * v41) + v5))))] [ov_i v123] z56 h57 (P_Mo_readLight_90 F z h n)
        have f124 : -1 ≤ v123 ∧ v123 < (4 : Int) ∧ (0 ≤ v123 → (h57 90 7) < n ∧ (h57 90 8) = 0) := f122
        clear f122
        refine ov_blk (ls2 := [(0, ov_r 90), (1, ov_i v5), (2, ov_i v41), (3, ov_i (350 + (4 * ((6 * v41) + v5)))), (4, ov_i v123)]) (st2 := [ov_i v123]) (pc2 := 108) b_219_104_2 rfl rfl ?_
        refine ov_ifge (tgt := 117) d_219_108 (by decide) (by omega) (fun c125 => ?_) (fun c125 => ?_)
        · skip
          refine ov_blk (ls2 := [(0, ov_r 90), (1, ov_i v5), (2, ov_i v41), (3, ov_i (350 + (4 * ((6 * v41) + v5)))), (4, ov_i v123)]) (st2 := [ov_r 90, ov_r 90]) (pc2 := 119) b_219_117_2 rfl rfl ?_
          refine ov_getf (v := ov_i (h57 90 7)) d_219_119 fl_Mo_177 (zb_90 I58) (zs_90 I58) rfl ?_
          have g126 := rg_90_7 I58
          refine ov_blk (ls2 := [(0, ov_r 90), (1, ov_i v5), (2, ov_i v41), (3, ov_i (350 + (4 * ((6 * v41) + v5)))), (4, ov_i v123)]) (st2 := [ov_i ((h57 90 7) + 1), ov_r 90]) (pc2 := 124) b_219_122_2 rfl rfl ?_
          refine ov_putf (x := ((h57 90 7) + 1)) d_219_124 fl_Mo_177 (zb_90 I58) (zs_90 I58) rfl nk_0 rfl ?_
          have I127 := up_90_7 (x := ((h57 90 7) + 1)) I58 (by omega)
          refine ov_blk (ls2 := [(0, ov_r 90), (1, ov_i v5), (2, ov_i v41), (3, ov_i (350 + (4 * ((6 * v41) + v5)))), (4, ov_i v123)]) (st2 := [ov_i 60, ov_i 1, ov_i 9, ov_r 90]) (pc2 := 133) b_219_127_4 rfl rfl ?_
          have cf128 : h57 92 (n) = h 92 (n) := congrFun E59 (n)
          refine ov_cV (as := [ov_i 9, ov_i 1, ov_i 60]) (st := []) (d2 := d - 1) d_219_133 lk_Mo_232 rfl (Nat.le_of_ble_eq_true rfl) (c := 1) (zb_90 I127) (zs_90 I127) ⟨by decide, rfl⟩ (by omega) (c_Mo_takeAfter_90 n (d - 1) (by omega) U I127 9 1 60 (by omega) (by omega) (by omega) (by show 0 ≤ n ∧ n ≤ 1000 ∧ (h57 92 (n)) = 0 ∧ ((h57 90 7) + 1) ≤ n; omega) (by omega)) ?_
          rintro _ z145 h146 ⟨v130, rfl, I147, f129, e131, e132, e133, e134, e135, e136, e137, e138, e139, e140, e141, e142, e143, e144⟩
          have E148 : h146 92 = h 92 := Eq.trans e131 E59
          have E149 : h146 93 = h 93 := Eq.trans e132 E60
          have E150 : h146 94 = h 94 := Eq.trans e133 E61
          have E151 : h146 95 = h 95 := Eq.trans e134 E62
          have E152 : h146 96 = h 96 := Eq.trans e135 E63
          have E153 : h146 97 = h 97 := Eq.trans e136 E64
          have E154 : h146 98 = h 98 := Eq.trans e137 E65
          have E155 : h146 99 = h 99 := Eq.trans e138 E66
          have E156 : h146 100 = h 100 := Eq.trans e139 E67
          have E157 : h146 103 = h 103 := Eq.trans e140 E68
          have E158 : h146 105 = h 105 := Eq.trans e141 E69
          have E159 : h146 106 = h 106 := Eq.trans e142 E70
          have E160 : h146 109 = h 109 := Eq.trans e143 E71
          have E161 : h146 114 = h 114 := Eq.trans e144 E72
          show ov_R u d ov_m219 136 [(0, ov_r 90), (1, ov_i v5), (2, ov_i v41), (3, ov_i (350 + (4 * ((6 * v41) + v5)))), (4, ov_i v123)] [ov_i v130] z145 h146 (P_Mo_readLight_90 F z h n)
          have f162 : (h146 90 2) = (h57 90 2) ∧ (h146 90 13) = (h57 90 13) ∧ (h146 90 20) = (h57 90 20) ∧ (h146 90 22) = (h57 90 22) ∧ (h146 90 25) = (h57 90 25) ∧ (h146 90 26) = (h57 90 26) ∧ (h146 90 28) = (h57 90 28) ∧ (h146 90 29) = (h57 90 29) ∧ (h146 90 30) = (h57 90 30) ∧ (h146 90 34) = (h57 90 34) ∧ ((h57 90 7) + 1) ≤ (h146 90 7) ∧ (h146 90 7) ≤ n ∧ (h57 90 8) ≤ (h146 90 8) ∧ ((h146 90 8) = 0 → (1 : Int) ≤ v130 ∧ v130 ≤ (60 : Int)) ∧ (0 < (h146 90 8) → v130 = 0) := f129
          clear f129
          refine ov_blk (ls2 := [(0, ov_r 90), (1, ov_i v5), (2, ov_i v41), (3, ov_i (350 + (4 * ((6 * v41) + v5)))), (4, ov_i v123), (5, ov_i v130)]) (st2 := [ov_r 90]) (pc2 := 139) b_219_136_2 rfl rfl ?_
          refine ov_getf (v := ov_i (h146 90 8)) d_219_139 fl_Mo_180 (zb_90 I147) (zs_90 I147) rfl ?_
          have g163 := rg_90_8 I147
          refine ov_ifgt (tgt := 151) d_219_142 (by decide) (by omega) (fun c164 => ?_) (fun c164 => ?_)
          · skip
            refine ov_blk (ls2 := [(0, ov_r 90), (1, ov_i v5), (2, ov_i v41), (3, ov_i (350 + (4 * ((6 * v41) + v5)))), (4, ov_i v123), (5, ov_i v130)]) (st2 := [ov_r 90]) (pc2 := 152) b_219_151_1 rfl rfl ?_
            refine ov_getf (v := ov_r 96) d_219_152 fl_Mo_81 (zb_90 I147) (zs_90 I147) (congrArg ov_r (rg_90_10 I147)) ?_
            refine ov_blk (ls2 := [(0, ov_r 90), (1, ov_i v5), (2, ov_i v41), (3, ov_i (350 + (4 * ((6 * v41) + v5)))), (4, ov_i v123), (5, ov_i v130)]) (st2 := [ov_i 349, ov_r 96]) (pc2 := 158) b_219_155_1 rfl rfl ?_
            refine ov_iald d_219_158 (zb_96 I147) (zs_96 I147) (by omega) ?_
            rw [show h146 96 = h 96 from E152]
            have g165 := t96_349 I
            refine ov_goto (tgt := 187) d_219_159 (by decide) ?_
            refine ov_blk (ls2 := [(0, ov_r 90), (1, ov_i v5), (2, ov_i v41), (3, ov_i (350 + (4 * ((6 * v41) + v5)))), (4, ov_i v123), (5, ov_i v130), (6, ov_i (h 96 349))]) (st2 := [ov_r 90]) (pc2 := 190) b_219_187_2 rfl rfl ?_
            refine ov_getf (v := ov_i (h146 90 8)) d_219_190 fl_Mo_180 (zb_90 I147) (zs_90 I147) rfl ?_
            refine ov_ifne (tgt := 219) d_219_193 (by decide) (by omega) (fun c167 => ?_) (fun c167 => ?_)
            · skip
              refine ov_blk (ls2 := [(0, ov_r 90), (1, ov_i v5), (2, ov_i v41), (3, ov_i (350 + (4 * ((6 * v41) + v5)))), (4, ov_i v123), (5, ov_i v130), (6, ov_i (h 96 349))]) (st2 := [ov_r 90]) (pc2 := 220) b_219_219_1 rfl rfl ?_
              refine ov_getf (v := ov_i (h146 90 8)) d_219_220 fl_Mo_180 (zb_90 I147) (zs_90 I147) rfl ?_
              refine ov_ifle (tgt := 227) d_219_223 (by decide) (by omega) (fun c169 => ?_) (fun c169 => ?_)
              · omega
              · skip
                have cf170 : h146 96 340 = h 96 340 := congrFun E152 340
                have cf171 : h146 96 341 = h 96 341 := congrFun E152 341
                have cf172 : h146 96 342 = h 96 342 := congrFun E152 342
                have cf173 : h146 96 349 = h 96 349 := congrFun E152 349
                have R174 : ov_RD (h 96) (h 97) (h 98) (h 90 13) (h146 96) (h146 97) (h146 98) (h 90 13) := by rw [show h146 96 = h 96 from E152, show h146 97 = h 97 from E153, show h146 98 = h 98 from E154]; exact ov_RD_refl _ _ _ _
                exact ov_retv (st := []) d_219_226 rfl ⟨rfl, I147, (by show (h146 90 2) = (h 90 2) ∧ (h146 90 13) = (h 90 13) ∧ (h146 90 20) = (h 90 20) ∧ (h146 90 22) = (h 90 22) ∧ (h146 90 25) = (h 90 25) ∧ (h146 90 26) = (h 90 26) ∧ (h146 90 28) = (h 90 28) ∧ (h146 90 29) = (h 90 29) ∧ (h146 90 30) = (h 90 30) ∧ (h146 90 34) = (h 90 34) ∧ (h 90 7) ≤ (h146 90 7) ∧ (h146 90 7) ≤ n ∧ (h 90 13) ≤ (h146 90 13) ∧ (h146 90 13) - (h 90 13) ≤ (h146 90 7) - (h 90 7) ∧ (h146 96 340) = (h 96 340) ∧ (h146 96 341) = (h 96 341) ∧ ((h146 90 8) = 0 → 1 ≤ (h 96 342) → 1 ≤ (h146 96 342)) ∧ (1 ≤ (h 96 349) → 1 ≤ (h146 96 349)); omega), E148, E149, E150, E151, E153, E154, E155, E156, E157, E158, E159, E160, E161, R174.1, R174.2.1, (fun _ w => by show ov_CS (h146 96) (h146 97) (h146 98) (h146 90 13); rw [show (h146 90 13) = h 90 13 by omega]; exact R174.2.2 w)⟩
            · omega
          · skip
            refine ov_blk (ls2 := [(0, ov_r 90), (1, ov_i v5), (2, ov_i v41), (3, ov_i (350 + (4 * ((6 * v41) + v5)))), (4, ov_i v123), (5, ov_i v130)]) (st2 := [ov_i 2, ov_i v123]) (pc2 := 148) b_219_145_2 rfl rfl ?_
            refine ov_iclt (tgt := 162) d_219_148 (by decide) (by omega) (by omega) (fun c175 => ?_) (fun c175 => ?_)
            · skip
              refine ov_blk (ls2 := [(0, ov_r 90), (1, ov_i v5), (2, ov_i v41), (3, ov_i (350 + (4 * ((6 * v41) + v5)))), (4, ov_i v123), (5, ov_i v130)]) (st2 := [ov_r 90]) (pc2 := 163) b_219_162_1 rfl rfl ?_
              refine ov_getf (v := ov_r 96) d_219_163 fl_Mo_81 (zb_90 I147) (zs_90 I147) (congrArg ov_r (rg_90_10 I147)) ?_
              refine ov_blk (ls2 := [(0, ov_r 90), (1, ov_i v5), (2, ov_i v41), (3, ov_i (350 + (4 * ((6 * v41) + v5)))), (4, ov_i v123), (5, ov_i v130)]) (st2 := [ov_i 349, ov_r 96]) (pc2 := 169) b_219_166_1 rfl rfl ?_
              refine ov_iald d_219_169 (zb_96 I147) (zs_96 I147) (by omega) ?_
              rw [show h146 96 = h 96 from E152]
              have g176 := t96_349 I
              refine ov_blk (ls2 := [(0, ov_r 90), (1, ov_i v5), (2, ov_i v41), (3, ov_i (350 + (4 * ((6 * v41) + v5)))), (4, ov_i v123), (5, ov_i v130)]) (st2 := [ov_r 90, ov_i (h 96 349)]) (pc2 := 171) b_219_170_1 rfl rfl ?_
              refine ov_getf (v := ov_r 96) d_219_171 fl_Mo_81 (zb_90 I147) (zs_90 I147) (congrArg ov_r (rg_90_10 I147)) ?_
              refine ov_blk (ls2 := [(0, ov_r 90), (1, ov_i v5), (2, ov_i v41), (3, ov_i (350 + (4 * ((6 * v41) + v5)))), (4, ov_i v123), (5, ov_i v130)]) (st2 := [ov_i 349, ov_r 96, ov_i (h 96 349)]) (pc2 := 177) b_219_174_1 rfl rfl ?_
              refine ov_iald d_219_177 (zb_96 I147) (zs_96 I147) (by omega) ?_
              rw [show h146 96 = h 96 from E152]
              refine ov_blk (ls2 := [(0, ov_r 90), (1, ov_i v5), (2, ov_i v41), (3, ov_i (350 + (4 * ((6 * v41) + v5)))), (4, ov_i v123), (5, ov_i v130)]) (st2 := [ov_i v130, ov_i (h 96 349), ov_i (h 96 349)]) (pc2 := 180) b_219_178_1 rfl rfl ?_
              refine ov_cS (as := [ov_i (h 96 349), ov_i v130]) (st := [ov_i (h 96 349)]) (d2 := d - 1) d_219_180 lk_Mo_236 rfl (Nat.le_of_ble_eq_true rfl) (by omega) (c_Mo_common (d - 1) (by omega) U I147 (h 96 349) v130 (by omega) (by omega) (by omega) (by omega)) ?_
              rintro _ _ _ ⟨v179, rfl, rfl, rfl, f178⟩
              show ov_R u d ov_m219 183 [(0, ov_r 90), (1, ov_i v5), (2, ov_i v41), (3, ov_i (350 + (4 * ((6 * v41) + v5)))), (4, ov_i v123), (5, ov_i v130)] [ov_i v179, ov_i (h 96 349)] z145 h146 (P_Mo_readLight_90 F z h n)
              have f180 : 1 ≤ v179 ∧ v179 ≤ 1200 ∧ (1 ≤ (h 96 349) → v179 ≤ (h 96 349)) := f178
              clear f178
              have gd := ov_tdp (a := (h 96 349)) (b := v179) (by omega) (by omega)
              refine ov_idiv d_219_183 (by omega) (by omega) (by omega) ?_
              have g181 := ov_tdl (a := (h 96 349)) (b := v179) (by omega) (by omega)
              refine ov_blk (ls2 := [(0, ov_r 90), (1, ov_i v5), (2, ov_i v41), (3, ov_i (350 + (4 * ((6 * v41) + v5)))), (4, ov_i v123), (5, ov_i v130)]) (st2 := [ov_i v130, ov_i (Int.tdiv (h 96 349) v179)]) (pc2 := 186) b_219_184_1 rfl rfl ?_
              have gq := ov_mulb (q := (Int.tdiv (h 96 349) v179)) (b := v130) (A := 1200) (B := 60) (by omega) (by omega) (by omega) (by omega)
              refine ov_blk (ls2 := [(0, ov_r 90), (1, ov_i v5), (2, ov_i v41), (3, ov_i (350 + (4 * ((6 * v41) + v5)))), (4, ov_i v123), (5, ov_i v130), (6, ov_i ((Int.tdiv (h 96 349) v179) * v130))]) (st2 := [ov_r 90]) (pc2 := 190) b_219_186_3 rfl rfl ?_
              refine ov_getf (v := ov_i (h146 90 8)) d_219_190 fl_Mo_180 (zb_90 I147) (zs_90 I147) rfl ?_
              refine ov_ifne (tgt := 219) d_219_193 (by decide) (by omega) (fun c183 => ?_) (fun c183 => ?_)
              · omega
              · skip
                refine ov_blk (ls2 := [(0, ov_r 90), (1, ov_i v5), (2, ov_i v41), (3, ov_i (350 + (4 * ((6 * v41) + v5)))), (4, ov_i v123), (5, ov_i v130), (6, ov_i ((Int.tdiv (h 96 349) v179) * v130))]) (st2 := [ov_i 1200, ov_i ((Int.tdiv (h 96 349) v179) * v130)]) (pc2 := 201) b_219_196_2 rfl rfl ?_
                refine ov_icle (tgt := 219) d_219_201 (by decide) (by omega) (by omega) (fun c184 => ?_) (fun c184 => ?_)
                · skip
                  refine ov_blk (ls2 := [(0, ov_r 90), (1, ov_i v5), (2, ov_i v41), (3, ov_i (350 + (4 * ((6 * v41) + v5)))), (4, ov_i v123), (5, ov_i v130), (6, ov_i ((Int.tdiv (h 96 349) v179) * v130))]) (st2 := [ov_r 90]) (pc2 := 220) b_219_219_1 rfl rfl ?_
                  refine ov_getf (v := ov_i (h146 90 8)) d_219_220 fl_Mo_180 (zb_90 I147) (zs_90 I147) rfl ?_
                  refine ov_ifle (tgt := 227) d_219_223 (by decide) (by omega) (fun c186 => ?_) (fun c186 => ?_)
                  · skip
                    refine ov_blk (ls2 := [(0, ov_r 90), (1, ov_i v5), (2, ov_i v41), (3, ov_i (350 + (4 * ((6 * v41) + v5)))), (4, ov_i v123), (5, ov_i v130), (6, ov_i ((Int.tdiv (h 96 349) v179) * v130))]) (st2 := [ov_r 90]) (pc2 := 228) b_219_227_1 rfl rfl ?_
                    refine ov_getf (v := ov_r 96) d_219_228 fl_Mo_81 (zb_90 I147) (zs_90 I147) (congrArg ov_r (rg_90_10 I147)) ?_
                    refine ov_blk (ls2 := [(0, ov_r 90), (1, ov_i v5), (2, ov_i v41), (3, ov_i (350 + (4 * ((6 * v41) + v5)))), (4, ov_i v123), (5, ov_i v130), (6, ov_i ((Int.tdiv (h 96 349) v179) * v130))]) (st2 := [ov_i ((Int.tdiv (h 96 349) v179) * v130), ov_i 349, ov_r 96]) (pc2 := 236) b_219_231_2 rfl rfl ?_
                    refine ov_iast d_219_236 (zb_96 I147) (zs_96 I147) (by omega) ?_
                    have I187 := ua_96 (k := 349) (x := ((Int.tdiv (h 96 349) v179) * v130)) I147 (by refine ⟨?_, ?_, ?_, ?_, ?_, ?_, ?_, ?_, ?_, ?_, ?_, ?_, ?_, ?_, ?_, ?_, ?_, ?_, ?_, ?_, ?_, ?_, ?_, ?_, ?_, ?_, ?_, ?_, ?_⟩ <;> omega)
                    have R188 : ov_RD (h 96) (h 97) (h 98) (h 90 13) (h146 96) (h146 97) (h146 98) (h 90 13) := by rw [show h146 96 = h 96 from E152, show h146 97 = h 97 from E153, show h146 98 = h 98 from E154]; exact ov_RD_refl _ _ _ _
                    have R189 : ov_RD (h 96) (h 97) (h 98) (h 90 13) ((ov_up h146 96 349 ((Int.tdiv (h 96 349) v179) * v130)) 96) ((ov_up h146 96 349 ((Int.tdiv (h 96 349) v179) * v130)) 97) ((ov_up h146 96 349 ((Int.tdiv (h 96 349) v179) * v130)) 98) (h 90 13) := by rw [ov_up_row]; exact ov_RD_w R188 (t96_348 I147).2 (by omega)
                    refine ov_blk (ls2 := [(0, ov_r 90), (1, ov_i v5), (2, ov_i v41), (3, ov_i (350 + (4 * ((6 * v41) + v5)))), (4, ov_i v123), (5, ov_i v130), (6, ov_i ((Int.tdiv (h 96 349) v179) * v130))]) (st2 := [ov_r 90]) (pc2 := 238) b_219_237_1 rfl rfl ?_
                    refine ov_getf (v := ov_r 96) d_219_238 fl_Mo_81 (zb_90 I187) (zs_90 I187) (congrArg ov_r (rg_90_10 I187)) ?_
                    refine ov_blk (ls2 := [(0, ov_r 90), (1, ov_i v5), (2, ov_i v41), (3, ov_i (350 + (4 * ((6 * v41) + v5)))), (4, ov_i v123), (5, ov_i v130), (6, ov_i ((Int.tdiv (h 96 349) v179) * v130))]) (st2 := [ov_i (1 + v123), ov_i (350 + (4 * ((6 * v41) + v5))), ov_r 96]) (pc2 := 246) b_219_241_4 rfl rfl ?_
                    refine ov_iast d_219_246 (zb_96 I187) (zs_96 I187) (by omega) ?_
                    have I190 := ua_96 (k := (350 + (4 * ((6 * v41) + v5)))) (x := (1 + v123)) I187 (by refine ⟨?_, ?_, ?_, ?_, ?_, ?_, ?_, ?_, ?_, ?_, ?_, ?_, ?_, ?_, ?_, ?_, ?_, ?_, ?_, ?_, ?_, ?_, ?_, ?_, ?_, ?_, ?_, ?_, ?_⟩ <;> omega)
                    refine ov_blk (ls2 := [(0, ov_r 90), (1, ov_i v5), (2, ov_i v41), (3, ov_i (350 + (4 * ((6 * v41) + v5)))), (4, ov_i v123), (5, ov_i v130), (6, ov_i ((Int.tdiv (h 96 349) v179) * v130))]) (st2 := [ov_r 90]) (pc2 := 248) b_219_247_1 rfl rfl ?_
                    refine ov_getf (v := ov_r 96) d_219_248 fl_Mo_81 (zb_90 I190) (zs_90 I190) (congrArg ov_r (rg_90_10 I190)) ?_
                    refine ov_blk (ls2 := [(0, ov_r 90), (1, ov_i v5), (2, ov_i v41), (3, ov_i (350 + (4 * ((6 * v41) + v5)))), (4, ov_i v123), (5, ov_i v130), (6, ov_i ((Int.tdiv (h 96 349) v179) * v130))]) (st2 := [ov_i v130, ov_i ((350 + (4 * ((6 * v41) + v5))) + 1), ov_r 96]) (pc2 := 256) b_219_251_4 rfl rfl ?_
                    refine ov_iast d_219_256 (zb_96 I190) (zs_96 I190) (by omega) ?_
                    have I191 := ua_96 (k := ((350 + (4 * ((6 * v41) + v5))) + 1)) (x := v130) I190 (by refine ⟨?_, ?_, ?_, ?_, ?_, ?_, ?_, ?_, ?_, ?_, ?_, ?_, ?_, ?_, ?_, ?_, ?_, ?_, ?_, ?_, ?_, ?_, ?_, ?_, ?_, ?_, ?_, ?_, ?_⟩ <;> omega)
                    have R192 : ov_RD (h 96) (h 97) (h 98) (h 90 13) ((ov_up (ov_up (ov_up h146 96 349 ((Int.tdiv (h 96 349) v179) * v130)) 96 (350 + (4 * ((6 * v41) + v5))) (1 + v123)) 96 ((350 + (4 * ((6 * v41) + v5))) + 1) v130) 96) ((ov_up (ov_up (ov_up h146 96 349 ((Int.tdiv (h 96 349) v179) * v130)) 96 (350 + (4 * ((6 * v41) + v5))) (1 + v123)) 96 ((350 + (4 * ((6 * v41) + v5))) + 1) v130) 97) ((ov_up (ov_up (ov_up h146 96 349 ((Int.tdiv (h 96 349) v179) * v130)) 96 (350 + (4 * ((6 * v41) + v5))) (1 + v123)) 96 ((350 + (4 * ((6 * v41) + v5))) + 1) v130) 98) (h 90 13) := by rw [ov_up_row, ov_up_row]; exact ov_RD_k R189 (t96_348 I187).2 (e := 6 * v41 + v5) (by omega) (by omega) (by omega) (by omega)
                    refine ov_blk (ls2 := [(0, ov_r 90), (1, ov_i v5), (2, ov_i v41), (3, ov_i (350 + (4 * ((6 * v41) + v5)))), (4, ov_i v123), (5, ov_i v130), (6, ov_i ((Int.tdiv (h 96 349) v179) * v130))]) (st2 := [ov_r 90]) (pc2 := 258) b_219_257_1 rfl rfl ?_
                    refine ov_getf (v := ov_r 96) d_219_258 fl_Mo_81 (zb_90 I191) (zs_90 I191) (congrArg ov_r (rg_90_10 I191)) ?_
                    refine ov_blk (ls2 := [(0, ov_r 90), (1, ov_i v5), (2, ov_i v41), (3, ov_i (350 + (4 * ((6 * v41) + v5)))), (4, ov_i v123), (5, ov_i v130), (6, ov_i ((Int.tdiv (h 96 349) v179) * v130))]) (st2 := [ov_i (v130 - 1), ov_i 0, ov_i 10, ov_r 90, ov_i ((350 + (4 * ((6 * v41) + v5))) + 2), ov_r 96]) (pc2 := 272) b_219_261_9 rfl rfl ?_
                    have cf193 : h146 92 (n) = h 92 (n) := congrFun E148 (n)
                    refine ov_cV (as := [ov_i 10, ov_i 0, ov_i (v130 - 1)]) (st := [ov_i ((350 + (4 * ((6 * v41) + v5))) + 2), ov_r 96]) (d2 := d - 1) d_219_272 lk_Mo_232 rfl (Nat.le_of_ble_eq_true rfl) (c := 1) (zb_90 I191) (zs_90 I191) ⟨by decide, rfl⟩ (by omega) (c_Mo_takeAfter_90 n (d - 1) (by omega) U I191 10 0 (v130 - 1) (by omega) (by omega) (by omega) (by show 0 ≤ n ∧ n ≤ 1000 ∧ (h146 92 (n)) = 0 ∧ (h146 90 7) ≤ n; omega) (by omega)) ?_
                    rintro _ z210 h211 ⟨v195, rfl, I212, f194, e196, e197, e198, e199, e200, e201, e202, e203, e204, e205, e206, e207, e208, e209⟩
                    have E213 : h211 92 = h 92 := Eq.trans e196 E148
                    have E214 : h211 93 = h 93 := Eq.trans e197 E149
                    have E215 : h211 94 = h 94 := Eq.trans e198 E150
                    have E216 : h211 95 = h 95 := Eq.trans e199 E151
                    have E217 : h211 97 = h 97 := Eq.trans e201 E153
                    have E218 : h211 98 = h 98 := Eq.trans e202 E154
                    have E219 : h211 99 = h 99 := Eq.trans e203 E155
                    have E220 : h211 100 = h 100 := Eq.trans e204 E156
                    have E221 : h211 103 = h 103 := Eq.trans e205 E157
                    have E222 : h211 105 = h 105 := Eq.trans e206 E158
                    have E223 : h211 106 = h 106 := Eq.trans e207 E159
                    have E224 : h211 109 = h 109 := Eq.trans e208 E160
                    have E225 : h211 114 = h 114 := Eq.trans e209 E161
                    show ov_R u d ov_m219 275 [(0, ov_r 90), (1, ov_i v5), (2, ov_i v41), (3, ov_i (350 + (4 * ((6 * v41) + v5)))), (4, ov_i v123), (5, ov_i v130), (6, ov_i ((Int.tdiv (h 96 349) v179) * v130))] [ov_i v195, ov_i ((350 + (4 * ((6 * v41) + v5))) + 2), ov_r 96] z210 h211 (P_Mo_readLight_90 F z h n)
                    have f226 : (h211 90 2) = (h146 90 2) ∧ (h211 90 13) = (h146 90 13) ∧ (h211 90 20) = (h146 90 20) ∧ (h211 90 22) = (h146 90 22) ∧ (h211 90 25) = (h146 90 25) ∧ (h211 90 26) = (h146 90 26) ∧ (h211 90 28) = (h146 90 28) ∧ (h211 90 29) = (h146 90 29) ∧ (h211 90 30) = (h146 90 30) ∧ (h211 90 34) = (h146 90 34) ∧ (h146 90 7) ≤ (h211 90 7) ∧ (h211 90 7) ≤ n ∧ (h146 90 8) ≤ (h211 90 8) ∧ ((h211 90 8) = 0 → (0 : Int) ≤ v195 ∧ v195 ≤ (v130 - 1)) ∧ (0 < (h211 90 8) → v195 = 0) := f194
                    clear f194
                    have R227 : ov_RD (h 96) (h 97) (h 98) (h 90 13) (h211 96) (h211 97) (h211 98) (h 90 13) := by rw [e200, e201, e202]; exact R192
                    have lt228 : ((ov_up (ov_up (ov_up h146 96 349 ((Int.tdiv (h 96 349) v179) * v130)) 96 (350 + (4 * ((6 * v41) + v5))) (1 + v123)) 96 ((350 + (4 * ((6 * v41) + v5))) + 1) v130) 96 340) = h146 96 340 := by try rw [ov_up_j (by omega)]; try rw [ov_up_j (by omega)]; try rw [ov_up_j (by omega)]; try rfl
                    have lt229 : h146 96 340 = h 96 340 := congrFun E152 340
                    have lt230 : ((ov_up (ov_up (ov_up h146 96 349 ((Int.tdiv (h 96 349) v179) * v130)) 96 (350 + (4 * ((6 * v41) + v5))) (1 + v123)) 96 ((350 + (4 * ((6 * v41) + v5))) + 1) v130) 96 341) = h146 96 341 := by try rw [ov_up_j (by omega)]; try rw [ov_up_j (by omega)]; try rw [ov_up_j (by omega)]; try rfl
                    have lt231 : h146 96 341 = h 96 341 := congrFun E152 341
                    have lt232 : ((ov_up (ov_up (ov_up h146 96 349 ((Int.tdiv (h 96 349) v179) * v130)) 96 (350 + (4 * ((6 * v41) + v5))) (1 + v123)) 96 ((350 + (4 * ((6 * v41) + v5))) + 1) v130) 96 342) = h146 96 342 := by try rw [ov_up_j (by omega)]; try rw [ov_up_j (by omega)]; try rw [ov_up_j (by omega)]; try rfl
                    have lt233 : h146 96 342 = h 96 342 := congrFun E152 342
                    have lt234 : ((ov_up (ov_up (ov_up h146 96 349 ((Int.tdiv (h 96 349) v179) * v130)) 96 (350 + (4 * ((6 * v41) + v5))) (1 + v123)) 96 ((350 + (4 * ((6 * v41) + v5))) + 1) v130) 96 348) = h146 96 348 := by try rw [ov_up_j (by omega)]; try rw [ov_up_j (by omega)]; try rw [ov_up_j (by omega)]; try rfl
                    have lt235 : h146 96 348 = h 96 348 := congrFun E152 348
                    have lt236 : ((ov_up (ov_up (ov_up h146 96 349 ((Int.tdiv (h 96 349) v179) * v130)) 96 (350 + (4 * ((6 * v41) + v5))) (1 + v123)) 96 ((350 + (4 * ((6 * v41) + v5))) + 1) v130) 96 349) = ((Int.tdiv (h 96 349) v179) * v130) := by try rw [ov_up_j (by omega)]; try rw [ov_up_j (by omega)]; try rw [ov_up_row, ov_rs_eq]; try rfl
                    have lt237 : h146 96 349 = h 96 349 := congrFun E152 349
                    have lt238 : h211 96 340 = ((ov_up (ov_up (ov_up h146 96 349 ((Int.tdiv (h 96 349) v179) * v130)) 96 (350 + (4 * ((6 * v41) + v5))) (1 + v123)) 96 ((350 + (4 * ((6 * v41) + v5))) + 1) v130) 96 340) := congrFun e200 340
                    have lt239 : h211 96 341 = ((ov_up (ov_up (ov_up h146 96 349 ((Int.tdiv (h 96 349) v179) * v130)) 96 (350 + (4 * ((6 * v41) + v5))) (1 + v123)) 96 ((350 + (4 * ((6 * v41) + v5))) + 1) v130) 96 341) := congrFun e200 341
                    have lt240 : h211 96 342 = ((ov_up (ov_up (ov_up h146 96 349 ((Int.tdiv (h 96 349) v179) * v130)) 96 (350 + (4 * ((6 * v41) + v5))) (1 + v123)) 96 ((350 + (4 * ((6 * v41) + v5))) + 1) v130) 96 342) := congrFun e200 342
                    have lt241 : h211 96 348 = ((ov_up (ov_up (ov_up h146 96 349 ((Int.tdiv (h 96 349) v179) * v130)) 96 (350 + (4 * ((6 * v41) + v5))) (1 + v123)) 96 ((350 + (4 * ((6 * v41) + v5))) + 1) v130) 96 348) := congrFun e200 348
                    have lt242 : h211 96 349 = ((ov_up (ov_up (ov_up h146 96 349 ((Int.tdiv (h 96 349) v179) * v130)) 96 (350 + (4 * ((6 * v41) + v5))) (1 + v123)) 96 ((350 + (4 * ((6 * v41) + v5))) + 1) v130) 96 349) := congrFun e200 349
                    refine ov_iast d_219_275 (zb_96 I212) (zs_96 I212) (by omega) ?_
                    have I243 := ua_96 (k := ((350 + (4 * ((6 * v41) + v5))) + 2)) (x := v195) I212 (by refine ⟨?_, ?_, ?_, ?_, ?_, ?_, ?_, ?_, ?_, ?_, ?_, ?_, ?_, ?_, ?_, ?_, ?_, ?_, ?_, ?_, ?_, ?_, ?_, ?_, ?_, ?_, ?_, ?_, ?_⟩ <;> omega)
                    have R244 : ov_RD (h 96) (h 97) (h 98) (h 90 13) ((ov_up h211 96 ((350 + (4 * ((6 * v41) + v5))) + 2) v195) 96) ((ov_up h211 96 ((350 + (4 * ((6 * v41) + v5))) + 2) v195) 97) ((ov_up h211 96 ((350 + (4 * ((6 * v41) + v5))) + 2) v195) 98) (h 90 13) := by rw [ov_up_row]; exact ov_RD_l R227 (t96_348 I212).2 (e := 6 * v41 + v5) (i := 2) (by omega) (Or.inl rfl) (by omega)
                    refine ov_blk (ls2 := [(0, ov_r 90), (1, ov_i v5), (2, ov_i v41), (3, ov_i (350 + (4 * ((6 * v41) + v5)))), (4, ov_i v123), (5, ov_i v130), (6, ov_i ((Int.tdiv (h 96 349) v179) * v130))]) (st2 := [ov_r 90]) (pc2 := 277) b_219_276_1 rfl rfl ?_
                    refine ov_getf (v := ov_r 96) d_219_277 fl_Mo_81 (zb_90 I243) (zs_90 I243) (congrArg ov_r (rg_90_10 I243)) ?_
                    refine ov_blk (ls2 := [(0, ov_r 90), (1, ov_i v5), (2, ov_i v41), (3, ov_i (350 + (4 * ((6 * v41) + v5)))), (4, ov_i v123), (5, ov_i v130), (6, ov_i ((Int.tdiv (h 96 349) v179) * v130))]) (st2 := [ov_i v130, ov_i 0, ov_i 12, ov_r 90, ov_i ((350 + (4 * ((6 * v41) + v5))) + 3), ov_r 96]) (pc2 := 289) b_219_280_7 rfl rfl ?_
                    have cf245 : h211 92 (n) = h 92 (n) := congrFun E213 (n)
                    refine ov_cV (as := [ov_i 12, ov_i 0, ov_i v130]) (st := [ov_i ((350 + (4 * ((6 * v41) + v5))) + 3), ov_r 96]) (d2 := d - 1) d_219_289 lk_Mo_232 rfl (Nat.le_of_ble_eq_true rfl) (c := 1) (zb_90 I243) (zs_90 I243) ⟨by decide, rfl⟩ (by omega) (c_Mo_takeAfter_90 n (d - 1) (by omega) U I243 12 0 v130 (by omega) (by omega) (by omega) (by show 0 ≤ n ∧ n ≤ 1000 ∧ (h211 92 (n)) = 0 ∧ (h211 90 7) ≤ n; omega) (by omega)) ?_
                    rintro _ z262 h263 ⟨v247, rfl, I264, f246, e248, e249, e250, e251, e252, e253, e254, e255, e256, e257, e258, e259, e260, e261⟩
                    have E265 : h263 92 = h 92 := Eq.trans e248 E213
                    have E266 : h263 93 = h 93 := Eq.trans e249 E214
                    have E267 : h263 94 = h 94 := Eq.trans e250 E215
                    have E268 : h263 95 = h 95 := Eq.trans e251 E216
                    have E269 : h263 97 = h 97 := Eq.trans e253 E217
                    have E270 : h263 98 = h 98 := Eq.trans e254 E218
                    have E271 : h263 99 = h 99 := Eq.trans e255 E219
                    have E272 : h263 100 = h 100 := Eq.trans e256 E220
                    have E273 : h263 103 = h 103 := Eq.trans e257 E221
                    have E274 : h263 105 = h 105 := Eq.trans e258 E222
                    have E275 : h263 106 = h 106 := Eq.trans e259 E223
                    have E276 : h263 109 = h 109 := Eq.trans e260 E224
                    have E277 : h263 114 = h 114 := Eq.trans e261 E225
                    show ov_R u d ov_m219 292 [(0, ov_r 90), (1, ov_i v5), (2, ov_i v41), (3, ov_i (350 + (4 * ((6 * v41) + v5)))), (4, ov_i v123), (5, ov_i v130), (6, ov_i ((Int.tdiv (h 96 349) v179) * v130))] [ov_i v247, ov_i ((350 + (4 * ((6 * v41) + v5))) + 3), ov_r 96] z262 h263 (P_Mo_readLight_90 F z h n)
                    have f278 : (h263 90 2) = (h211 90 2) ∧ (h263 90 13) = (h211 90 13) ∧ (h263 90 20) = (h211 90 20) ∧ (h263 90 22) = (h211 90 22) ∧ (h263 90 25) = (h211 90 25) ∧ (h263 90 26) = (h211 90 26) ∧ (h263 90 28) = (h211 90 28) ∧ (h263 90 29) = (h211 90 29) ∧ (h263 90 30) = (h211 90 30) ∧ (h263 90 34) = (h211 90 34) ∧ (h211 90 7) ≤ (h263 90 7) ∧ (h263 90 7) ≤ n ∧ (h211 90 8) ≤ (h263 90 8) ∧ ((h263 90 8) = 0 → (0 : Int) ≤ v247 ∧ v247 ≤ v130) ∧ (0 < (h263 90 8) → v247 = 0) := f246
                    clear f246
                    have R279 : ov_RD (h 96) (h 97) (h 98) (h 90 13) (h263 96) (h263 97) (h263 98) (h 90 13) := by rw [e252, e253, e254]; exact R244
                    have lt280 : ((ov_up h211 96 ((350 + (4 * ((6 * v41) + v5))) + 2) v195) 96 340) = h211 96 340 := by try rw [ov_up_j (by omega)]; try rfl
                    have lt281 : ((ov_up h211 96 ((350 + (4 * ((6 * v41) + v5))) + 2) v195) 96 341) = h211 96 341 := by try rw [ov_up_j (by omega)]; try rfl
                    have lt282 : ((ov_up h211 96 ((350 + (4 * ((6 * v41) + v5))) + 2) v195) 96 342) = h211 96 342 := by try rw [ov_up_j (by omega)]; try rfl
                    have lt283 : ((ov_up h211 96 ((350 + (4 * ((6 * v41) + v5))) + 2) v195) 96 348) = h211 96 348 := by try rw [ov_up_j (by omega)]; try rfl
                    have lt284 : ((ov_up h211 96 ((350 + (4 * ((6 * v41) + v5))) + 2) v195) 96 349) = h211 96 349 := by try rw [ov_up_j (by omega)]; try rfl
                    have lt285 : h263 96 340 = ((ov_up h211 96 ((350 + (4 * ((6 * v41) + v5))) + 2) v195) 96 340) := congrFun e252 340
                    have lt286 : h263 96 341 = ((ov_up h211 96 ((350 + (4 * ((6 * v41) + v5))) + 2) v195) 96 341) := congrFun e252 341
                    have lt287 : h263 96 342 = ((ov_up h211 96 ((350 + (4 * ((6 * v41) + v5))) + 2) v195) 96 342) := congrFun e252 342
                    have lt288 : h263 96 348 = ((ov_up h211 96 ((350 + (4 * ((6 * v41) + v5))) + 2) v195) 96 348) := congrFun e252 348
                    have lt289 : h263 96 349 = ((ov_up h211 96 ((350 + (4 * ((6 * v41) + v5))) + 2) v195) 96 349) := congrFun e252 349
                    refine ov_iast d_219_292 (zb_96 I264) (zs_96 I264) (by omega) ?_
                    have I290 := ua_96 (k := ((350 + (4 * ((6 * v41) + v5))) + 3)) (x := v247) I264 (by refine ⟨?_, ?_, ?_, ?_, ?_, ?_, ?_, ?_, ?_, ?_, ?_, ?_, ?_, ?_, ?_, ?_, ?_, ?_, ?_, ?_, ?_, ?_, ?_, ?_, ?_, ?_, ?_, ?_, ?_⟩ <;> omega)
                    have R291 : ov_RD (h 96) (h 97) (h 98) (h 90 13) ((ov_up h263 96 ((350 + (4 * ((6 * v41) + v5))) + 3) v247) 96) ((ov_up h263 96 ((350 + (4 * ((6 * v41) + v5))) + 3) v247) 97) ((ov_up h263 96 ((350 + (4 * ((6 * v41) + v5))) + 3) v247) 98) (h 90 13) := by rw [ov_up_row]; exact ov_RD_l R279 (t96_348 I264).2 (e := 6 * v41 + v5) (i := 3) (by omega) (Or.inr rfl) (by omega)
                    refine ov_blk (ls2 := [(0, ov_r 90), (1, ov_i v5), (2, ov_i v41), (3, ov_i (350 + (4 * ((6 * v41) + v5)))), (4, ov_i v123), (5, ov_i v130), (6, ov_i ((Int.tdiv (h 96 349) v179) * v130))]) (st2 := [ov_r 90]) (pc2 := 294) b_219_293_1 rfl rfl ?_
                    refine ov_getf (v := ov_r 96) d_219_294 fl_Mo_81 (zb_90 I290) (zs_90 I290) (congrArg ov_r (rg_90_10 I290)) ?_
                    refine ov_blk (ls2 := [(0, ov_r 90), (1, ov_i v5), (2, ov_i v41), (3, ov_i (350 + (4 * ((6 * v41) + v5)))), (4, ov_i v123), (5, ov_i v130), (6, ov_i ((Int.tdiv (h 96 349) v179) * v130))]) (st2 := [ov_i 347, ov_r 96, ov_i 347, ov_r 96]) (pc2 := 301) b_219_297_2 rfl rfl ?_
                    refine ov_iald d_219_301 (zb_96 I290) (zs_96 I290) (by omega) ?_
                    show ov_R u d ov_m219 302 [(0, ov_r 90), (1, ov_i v5), (2, ov_i v41), (3, ov_i (350 + (4 * ((6 * v41) + v5)))), (4, ov_i v123), (5, ov_i v130), (6, ov_i ((Int.tdiv (h 96 349) v179) * v130))] [ov_i ((ov_up h263 96 ((350 + (4 * ((6 * v41) + v5))) + 3) v247) 96 347), ov_i 347, ov_r 96] z262 (ov_up h263 96 ((350 + (4 * ((6 * v41) + v5))) + 3) v247) (P_Mo_readLight_90 F z h n)
                    refine ov_blk (ls2 := [(0, ov_r 90), (1, ov_i v5), (2, ov_i v41), (3, ov_i (350 + (4 * ((6 * v41) + v5)))), (4, ov_i v123), (5, ov_i v130), (6, ov_i ((Int.tdiv (h 96 349) v179) * v130))]) (st2 := [ov_i (((ov_up h263 96 ((350 + (4 * ((6 * v41) + v5))) + 3) v247) 96 347) + 1), ov_i 347, ov_r 96]) (pc2 := 304) b_219_302_2 rfl rfl ?_
                    refine ov_havw (fun w292 gw292 qw292 => ?_)
                    refine ov_iast d_219_304 (zb_96 I290) (zs_96 I290) (by omega) ?_
                    have I293 := ua_96 (k := 347) (x := w292) I290 (by refine ⟨?_, ?_, ?_, ?_, ?_, ?_, ?_, ?_, ?_, ?_, ?_, ?_, ?_, ?_, ?_, ?_, ?_, ?_, ?_, ?_, ?_, ?_, ?_, ?_, ?_, ?_, ?_, ?_, ?_⟩ <;> omega)
                    have R294 : ov_RD (h 96) (h 97) (h 98) (h 90 13) ((ov_up (ov_up h263 96 ((350 + (4 * ((6 * v41) + v5))) + 3) v247) 96 347 w292) 96) ((ov_up (ov_up h263 96 ((350 + (4 * ((6 * v41) + v5))) + 3) v247) 96 347 w292) 97) ((ov_up (ov_up h263 96 ((350 + (4 * ((6 * v41) + v5))) + 3) v247) 96 347 w292) 98) (h 90 13) := by rw [ov_up_row]; exact ov_RD_w R291 (t96_348 I290).2 (by omega)
                    have lt295 : ((ov_up h263 96 ((350 + (4 * ((6 * v41) + v5))) + 3) v247) 96 340) = h263 96 340 := by try rw [ov_up_j (by omega)]; try rw [ov_up_j (by omega)]; try rfl
                    have lt296 : ((ov_up h263 96 ((350 + (4 * ((6 * v41) + v5))) + 3) v247) 96 341) = h263 96 341 := by try rw [ov_up_j (by omega)]; try rw [ov_up_j (by omega)]; try rfl
                    have lt297 : ((ov_up h263 96 ((350 + (4 * ((6 * v41) + v5))) + 3) v247) 96 342) = h263 96 342 := by try rw [ov_up_j (by omega)]; try rw [ov_up_j (by omega)]; try rfl
                    have lt298 : ((ov_up h263 96 ((350 + (4 * ((6 * v41) + v5))) + 3) v247) 96 348) = h263 96 348 := by try rw [ov_up_j (by omega)]; try rw [ov_up_j (by omega)]; try rfl
                    have lt299 : ((ov_up h263 96 ((350 + (4 * ((6 * v41) + v5))) + 3) v247) 96 349) = h263 96 349 := by try rw [ov_up_j (by omega)]; try rw [ov_up_j (by omega)]; try rfl
                    exact ov_retv (st := []) d_219_305 rfl ⟨rfl, I293, (by show (h263 90 2) = (h 90 2) ∧ (h263 90 13) = (h 90 13) ∧ (h263 90 20) = (h 90 20) ∧ (h263 90 22) = (h 90 22) ∧ (h263 90 25) = (h 90 25) ∧ (h263 90 26) = (h 90 26) ∧ (h263 90 28) = (h 90 28) ∧ (h263 90 29) = (h 90 29) ∧ (h263 90 30) = (h 90 30) ∧ (h263 90 34) = (h 90 34) ∧ (h 90 7) ≤ (h263 90 7) ∧ (h263 90 7) ≤ n ∧ (h 90 13) ≤ (h263 90 13) ∧ (h263 90 13) - (h 90 13) ≤ (h263 90 7) - (h 90 7) ∧ ((ov_up h263 96 ((350 + (4 * ((6 * v41) + v5))) + 3) v247) 96 340) = (h 96 340) ∧ ((ov_up h263 96 ((350 + (4 * ((6 * v41) + v5))) + 3) v247) 96 341) = (h 96 341) ∧ ((h263 90 8) = 0 → 1 ≤ (h 96 342) → 1 ≤ ((ov_up h263 96 ((350 + (4 * ((6 * v41) + v5))) + 3) v247) 96 342)) ∧ (1 ≤ (h 96 349) → 1 ≤ ((ov_up h263 96 ((350 + (4 * ((6 * v41) + v5))) + 3) v247) 96 349)); omega), E265, E266, E267, E268, E269, E270, E271, E272, E273, E274, E275, E276, E277, R294.1, R294.2.1, (fun _ w => by show ov_CS ((ov_up (ov_up h263 96 ((350 + (4 * ((6 * v41) + v5))) + 3) v247) 96 347 w292) 96) ((ov_up (ov_up h263 96 ((350 + (4 * ((6 * v41) + v5))) + 3) v247) 96 347 w292) 97) ((ov_up (ov_up h263 96 ((350 + (4 * ((6 * v41) + v5))) + 3) v247) 96 347 w292) 98) (h263 90 13); rw [show (h263 90 13) = h 90 13 by omega]; exact R294.2.2 w)⟩
                  · omega
                · skip
                  refine ov_blk (ls2 := [(0, ov_r 90), (1, ov_i v5), (2, ov_i v41), (3, ov_i (350 + (4 * ((6 * v41) + v5)))), (4, ov_i v123), (5, ov_i v130), (6, ov_i ((Int.tdiv (h 96 349) v179) * v130))]) (st2 := [ov_r 90, ov_r 90]) (pc2 := 206) b_219_204_2 rfl rfl ?_
                  refine ov_getf (v := ov_i (h146 90 7)) d_219_206 fl_Mo_177 (zb_90 I147) (zs_90 I147) rfl ?_
                  have g300 := rg_90_7 I147
                  refine ov_blk (ls2 := [(0, ov_r 90), (1, ov_i v5), (2, ov_i v41), (3, ov_i (350 + (4 * ((6 * v41) + v5)))), (4, ov_i v123), (5, ov_i v130), (6, ov_i ((Int.tdiv (h 96 349) v179) * v130))]) (st2 := [ov_i ((h146 90 7) - 1), ov_r 90]) (pc2 := 211) b_219_209_2 rfl rfl ?_
                  refine ov_putf (x := ((h146 90 7) - 1)) d_219_211 fl_Mo_177 (zb_90 I147) (zs_90 I147) rfl nk_0 rfl ?_
                  have I301 := up_90_7 (x := ((h146 90 7) - 1)) I147 (by omega)
                  refine ov_blk (ls2 := [(0, ov_r 90), (1, ov_i v5), (2, ov_i v41), (3, ov_i (350 + (4 * ((6 * v41) + v5)))), (4, ov_i v123), (5, ov_i v130), (6, ov_i ((Int.tdiv (h 96 349) v179) * v130))]) (st2 := [ov_i 4, ov_r 90]) (pc2 := 216) b_219_214_2 rfl rfl ?_
                  refine ov_cV (as := [ov_i 4]) (st := []) (d2 := d - 1) d_219_216 lk_Mo_186 rfl (Nat.le_of_ble_eq_true rfl) (c := 1) (zb_90 I301) (zs_90 I301) ⟨by decide, rfl⟩ (by omega) (c_Mo_wrong_90 (d - 1) (by omega) U I301 4 (by omega) (by omega)) ?_
                  rintro _ z317 h318 ⟨rfl, I319, f302, e303, e304, e305, e306, e307, e308, e309, e310, e311, e312, e313, e314, e315, e316⟩
                  have E320 : h318 92 = h 92 := Eq.trans e303 E148
                  have E321 : h318 93 = h 93 := Eq.trans e304 E149
                  have E322 : h318 94 = h 94 := Eq.trans e305 E150
                  have E323 : h318 95 = h 95 := Eq.trans e306 E151
                  have E324 : h318 96 = h 96 := Eq.trans e307 E152
                  have E325 : h318 97 = h 97 := Eq.trans e308 E153
                  have E326 : h318 98 = h 98 := Eq.trans e309 E154
                  have E327 : h318 99 = h 99 := Eq.trans e310 E155
                  have E328 : h318 100 = h 100 := Eq.trans e311 E156
                  have E329 : h318 103 = h 103 := Eq.trans e312 E157
                  have E330 : h318 105 = h 105 := Eq.trans e313 E158
                  have E331 : h318 106 = h 106 := Eq.trans e314 E159
                  have E332 : h318 109 = h 109 := Eq.trans e315 E160
                  have E333 : h318 114 = h 114 := Eq.trans e316 E161
                  show ov_R u d ov_m219 219 [(0, ov_r 90), (1, ov_i v5), (2, ov_i v41), (3, ov_i (350 + (4 * ((6 * v41) + v5)))), (4, ov_i v123), (5, ov_i v130), (6, ov_i ((Int.tdiv (h 96 349) v179) * v130))] [] z317 h318 (P_Mo_readLight_90 F z h n)
                  have f334 : (h318 90 2) = (h146 90 2) ∧ (h318 90 7) = ((h146 90 7) - 1) ∧ (h318 90 13) = (h146 90 13) ∧ (h318 90 20) = (h146 90 20) ∧ (h318 90 22) = (h146 90 22) ∧ (h318 90 25) = (h146 90 25) ∧ (h318 90 26) = (h146 90 26) ∧ (h318 90 28) = (h146 90 28) ∧ (h318 90 29) = (h146 90 29) ∧ (h318 90 30) = (h146 90 30) ∧ (h318 90 34) = (h146 90 34) ∧ 0 < (h318 90 8) ∧ (h146 90 8) ≤ (h318 90 8) := f302
                  clear f302
                  refine ov_blk (ls2 := [(0, ov_r 90), (1, ov_i v5), (2, ov_i v41), (3, ov_i (350 + (4 * ((6 * v41) + v5)))), (4, ov_i v123), (5, ov_i v130), (6, ov_i ((Int.tdiv (h 96 349) v179) * v130))]) (st2 := [ov_r 90]) (pc2 := 220) b_219_219_1 rfl rfl ?_
                  refine ov_getf (v := ov_i (h318 90 8)) d_219_220 fl_Mo_180 (zb_90 I319) (zs_90 I319) rfl ?_
                  have g335 := rg_90_8 I319
                  refine ov_ifle (tgt := 227) d_219_223 (by decide) (by omega) (fun c336 => ?_) (fun c336 => ?_)
                  · omega
                  · skip
                    have cf337 : h318 96 340 = h 96 340 := congrFun E324 340
                    have cf338 : h318 96 341 = h 96 341 := congrFun E324 341
                    have cf339 : h318 96 342 = h 96 342 := congrFun E324 342
                    have cf340 : h318 96 349 = h 96 349 := congrFun E324 349
                    have R341 : ov_RD (h 96) (h 97) (h 98) (h 90 13) (h318 96) (h318 97) (h318 98) (h 90 13) := by rw [show h318 96 = h 96 from E324, show h318 97 = h 97 from E325, show h318 98 = h 98 from E326]; exact ov_RD_refl _ _ _ _
                    exact ov_retv (st := []) d_219_226 rfl ⟨rfl, I319, (by show (h318 90 2) = (h 90 2) ∧ (h318 90 13) = (h 90 13) ∧ (h318 90 20) = (h 90 20) ∧ (h318 90 22) = (h 90 22) ∧ (h318 90 25) = (h 90 25) ∧ (h318 90 26) = (h 90 26) ∧ (h318 90 28) = (h 90 28) ∧ (h318 90 29) = (h 90 29) ∧ (h318 90 30) = (h 90 30) ∧ (h318 90 34) = (h 90 34) ∧ (h 90 7) ≤ (h318 90 7) ∧ (h318 90 7) ≤ n ∧ (h 90 13) ≤ (h318 90 13) ∧ (h318 90 13) - (h 90 13) ≤ (h318 90 7) - (h 90 7) ∧ (h318 96 340) = (h 96 340) ∧ (h318 96 341) = (h 96 341) ∧ ((h318 90 8) = 0 → 1 ≤ (h 96 342) → 1 ≤ (h318 96 342)) ∧ (1 ≤ (h 96 349) → 1 ≤ (h318 96 349)); omega), E320, E321, E322, E323, E325, E326, E327, E328, E329, E330, E331, E332, E333, R341.1, R341.2.1, (fun _ w => by show ov_CS (h318 96) (h318 97) (h318 98) (h318 90 13); rw [show (h318 90 13) = h 90 13 by omega]; exact R341.2.2 w)⟩
            · skip
              refine ov_blk (ls2 := [(0, ov_r 90), (1, ov_i v5), (2, ov_i v41), (3, ov_i (350 + (4 * ((6 * v41) + v5)))), (4, ov_i v123), (5, ov_i v130)]) (st2 := [ov_r 90]) (pc2 := 152) b_219_151_1 rfl rfl ?_
              refine ov_getf (v := ov_r 96) d_219_152 fl_Mo_81 (zb_90 I147) (zs_90 I147) (congrArg ov_r (rg_90_10 I147)) ?_
              refine ov_blk (ls2 := [(0, ov_r 90), (1, ov_i v5), (2, ov_i v41), (3, ov_i (350 + (4 * ((6 * v41) + v5)))), (4, ov_i v123), (5, ov_i v130)]) (st2 := [ov_i 349, ov_r 96]) (pc2 := 158) b_219_155_1 rfl rfl ?_
              refine ov_iald d_219_158 (zb_96 I147) (zs_96 I147) (by omega) ?_
              rw [show h146 96 = h 96 from E152]
              have g342 := t96_349 I
              refine ov_goto (tgt := 187) d_219_159 (by decide) ?_
              refine ov_blk (ls2 := [(0, ov_r 90), (1, ov_i v5), (2, ov_i v41), (3, ov_i (350 + (4 * ((6 * v41) + v5)))), (4, ov_i v123), (5, ov_i v130), (6, ov_i (h 96 349))]) (st2 := [ov_r 90]) (pc2 := 190) b_219_187_2 rfl rfl ?_
              refine ov_getf (v := ov_i (h146 90 8)) d_219_190 fl_Mo_180 (zb_90 I147) (zs_90 I147) rfl ?_
              refine ov_ifne (tgt := 219) d_219_193 (by decide) (by omega) (fun c344 => ?_) (fun c344 => ?_)
              · omega
              · skip
                refine ov_blk (ls2 := [(0, ov_r 90), (1, ov_i v5), (2, ov_i v41), (3, ov_i (350 + (4 * ((6 * v41) + v5)))), (4, ov_i v123), (5, ov_i v130), (6, ov_i (h 96 349))]) (st2 := [ov_i 1200, ov_i (h 96 349)]) (pc2 := 201) b_219_196_2 rfl rfl ?_
                refine ov_icle (tgt := 219) d_219_201 (by decide) (by omega) (by omega) (fun c345 => ?_) (fun c345 => ?_)
                · skip
                  refine ov_blk (ls2 := [(0, ov_r 90), (1, ov_i v5), (2, ov_i v41), (3, ov_i (350 + (4 * ((6 * v41) + v5)))), (4, ov_i v123), (5, ov_i v130), (6, ov_i (h 96 349))]) (st2 := [ov_r 90]) (pc2 := 220) b_219_219_1 rfl rfl ?_
                  refine ov_getf (v := ov_i (h146 90 8)) d_219_220 fl_Mo_180 (zb_90 I147) (zs_90 I147) rfl ?_
                  refine ov_ifle (tgt := 227) d_219_223 (by decide) (by omega) (fun c347 => ?_) (fun c347 => ?_)
                  · skip
                    refine ov_blk (ls2 := [(0, ov_r 90), (1, ov_i v5), (2, ov_i v41), (3, ov_i (350 + (4 * ((6 * v41) + v5)))), (4, ov_i v123), (5, ov_i v130), (6, ov_i (h 96 349))]) (st2 := [ov_r 90]) (pc2 := 228) b_219_227_1 rfl rfl ?_
                    refine ov_getf (v := ov_r 96) d_219_228 fl_Mo_81 (zb_90 I147) (zs_90 I147) (congrArg ov_r (rg_90_10 I147)) ?_
                    refine ov_blk (ls2 := [(0, ov_r 90), (1, ov_i v5), (2, ov_i v41), (3, ov_i (350 + (4 * ((6 * v41) + v5)))), (4, ov_i v123), (5, ov_i v130), (6, ov_i (h 96 349))]) (st2 := [ov_i (h 96 349), ov_i 349, ov_r 96]) (pc2 := 236) b_219_231_2 rfl rfl ?_
                    refine ov_iast d_219_236 (zb_96 I147) (zs_96 I147) (by omega) ?_
                    have I348 := ua_96 (k := 349) (x := (h 96 349)) I147 (by refine ⟨?_, ?_, ?_, ?_, ?_, ?_, ?_, ?_, ?_, ?_, ?_, ?_, ?_, ?_, ?_, ?_, ?_, ?_, ?_, ?_, ?_, ?_, ?_, ?_, ?_, ?_, ?_, ?_, ?_⟩ <;> omega)
                    have R349 : ov_RD (h 96) (h 97) (h 98) (h 90 13) (h146 96) (h146 97) (h146 98) (h 90 13) := by rw [show h146 96 = h 96 from E152, show h146 97 = h 97 from E153, show h146 98 = h 98 from E154]; exact ov_RD_refl _ _ _ _
                    have R350 : ov_RD (h 96) (h 97) (h 98) (h 90 13) ((ov_up h146 96 349 (h 96 349)) 96) ((ov_up h146 96 349 (h 96 349)) 97) ((ov_up h146 96 349 (h 96 349)) 98) (h 90 13) := by rw [ov_up_row]; exact ov_RD_w R349 (t96_348 I147).2 (by omega)
                    refine ov_blk (ls2 := [(0, ov_r 90), (1, ov_i v5), (2, ov_i v41), (3, ov_i (350 + (4 * ((6 * v41) + v5)))), (4, ov_i v123), (5, ov_i v130), (6, ov_i (h 96 349))]) (st2 := [ov_r 90]) (pc2 := 238) b_219_237_1 rfl rfl ?_
                    refine ov_getf (v := ov_r 96) d_219_238 fl_Mo_81 (zb_90 I348) (zs_90 I348) (congrArg ov_r (rg_90_10 I348)) ?_
                    refine ov_blk (ls2 := [(0, ov_r 90), (1, ov_i v5), (2, ov_i v41), (3, ov_i (350 + (4 * ((6 * v41) + v5)))), (4, ov_i v123), (5, ov_i v130), (6, ov_i (h 96 349))]) (st2 := [ov_i (1 + v123), ov_i (350 + (4 * ((6 * v41) + v5))), ov_r 96]) (pc2 := 246) b_219_241_4 rfl rfl ?_
                    refine ov_iast d_219_246 (zb_96 I348) (zs_96 I348) (by omega) ?_
                    have I351 := ua_96 (k := (350 + (4 * ((6 * v41) + v5)))) (x := (1 + v123)) I348 (by refine ⟨?_, ?_, ?_, ?_, ?_, ?_, ?_, ?_, ?_, ?_, ?_, ?_, ?_, ?_, ?_, ?_, ?_, ?_, ?_, ?_, ?_, ?_, ?_, ?_, ?_, ?_, ?_, ?_, ?_⟩ <;> omega)
                    refine ov_blk (ls2 := [(0, ov_r 90), (1, ov_i v5), (2, ov_i v41), (3, ov_i (350 + (4 * ((6 * v41) + v5)))), (4, ov_i v123), (5, ov_i v130), (6, ov_i (h 96 349))]) (st2 := [ov_r 90]) (pc2 := 248) b_219_247_1 rfl rfl ?_
                    refine ov_getf (v := ov_r 96) d_219_248 fl_Mo_81 (zb_90 I351) (zs_90 I351) (congrArg ov_r (rg_90_10 I351)) ?_
                    refine ov_blk (ls2 := [(0, ov_r 90), (1, ov_i v5), (2, ov_i v41), (3, ov_i (350 + (4 * ((6 * v41) + v5)))), (4, ov_i v123), (5, ov_i v130), (6, ov_i (h 96 349))]) (st2 := [ov_i v130, ov_i ((350 + (4 * ((6 * v41) + v5))) + 1), ov_r 96]) (pc2 := 256) b_219_251_4 rfl rfl ?_
                    refine ov_iast d_219_256 (zb_96 I351) (zs_96 I351) (by omega) ?_
                    have I352 := ua_96 (k := ((350 + (4 * ((6 * v41) + v5))) + 1)) (x := v130) I351 (by refine ⟨?_, ?_, ?_, ?_, ?_, ?_, ?_, ?_, ?_, ?_, ?_, ?_, ?_, ?_, ?_, ?_, ?_, ?_, ?_, ?_, ?_, ?_, ?_, ?_, ?_, ?_, ?_, ?_, ?_⟩ <;> omega)
                    have R353 : ov_RD (h 96) (h 97) (h 98) (h 90 13) ((ov_up (ov_up (ov_up h146 96 349 (h 96 349)) 96 (350 + (4 * ((6 * v41) + v5))) (1 + v123)) 96 ((350 + (4 * ((6 * v41) + v5))) + 1) v130) 96) ((ov_up (ov_up (ov_up h146 96 349 (h 96 349)) 96 (350 + (4 * ((6 * v41) + v5))) (1 + v123)) 96 ((350 + (4 * ((6 * v41) + v5))) + 1) v130) 97) ((ov_up (ov_up (ov_up h146 96 349 (h 96 349)) 96 (350 + (4 * ((6 * v41) + v5))) (1 + v123)) 96 ((350 + (4 * ((6 * v41) + v5))) + 1) v130) 98) (h 90 13) := by rw [ov_up_row, ov_up_row]; exact ov_RD_k R350 (t96_348 I348).2 (e := 6 * v41 + v5) (by omega) (by omega) (by omega) (by omega)
                    refine ov_blk (ls2 := [(0, ov_r 90), (1, ov_i v5), (2, ov_i v41), (3, ov_i (350 + (4 * ((6 * v41) + v5)))), (4, ov_i v123), (5, ov_i v130), (6, ov_i (h 96 349))]) (st2 := [ov_r 90]) (pc2 := 258) b_219_257_1 rfl rfl ?_
                    refine ov_getf (v := ov_r 96) d_219_258 fl_Mo_81 (zb_90 I352) (zs_90 I352) (congrArg ov_r (rg_90_10 I352)) ?_
                    refine ov_blk (ls2 := [(0, ov_r 90), (1, ov_i v5), (2, ov_i v41), (3, ov_i (350 + (4 * ((6 * v41) + v5)))), (4, ov_i v123), (5, ov_i v130), (6, ov_i (h 96 349))]) (st2 := [ov_i (v130 - 1), ov_i 0, ov_i 10, ov_r 90, ov_i ((350 + (4 * ((6 * v41) + v5))) + 2), ov_r 96]) (pc2 := 272) b_219_261_9 rfl rfl ?_
                    have cf354 : h146 92 (n) = h 92 (n) := congrFun E148 (n)
                    refine ov_cV (as := [ov_i 10, ov_i 0, ov_i (v130 - 1)]) (st := [ov_i ((350 + (4 * ((6 * v41) + v5))) + 2), ov_r 96]) (d2 := d - 1) d_219_272 lk_Mo_232 rfl (Nat.le_of_ble_eq_true rfl) (c := 1) (zb_90 I352) (zs_90 I352) ⟨by decide, rfl⟩ (by omega) (c_Mo_takeAfter_90 n (d - 1) (by omega) U I352 10 0 (v130 - 1) (by omega) (by omega) (by omega) (by show 0 ≤ n ∧ n ≤ 1000 ∧ (h146 92 (n)) = 0 ∧ (h146 90 7) ≤ n; omega) (by omega)) ?_
                    rintro _ z371 h372 ⟨v356, rfl, I373, f355, e357, e358, e359, e360, e361, e362, e363, e364, e365, e366, e367, e368, e369, e370⟩
                    have E374 : h372 92 = h 92 := Eq.trans e357 E148
                    have E375 : h372 93 = h 93 := Eq.trans e358 E149
                    have E376 : h372 94 = h 94 := Eq.trans e359 E150
                    have E377 : h372 95 = h 95 := Eq.trans e360 E151
                    have E378 : h372 97 = h 97 := Eq.trans e362 E153
                    have E379 : h372 98 = h 98 := Eq.trans e363 E154
                    have E380 : h372 99 = h 99 := Eq.trans e364 E155
                    have E381 : h372 100 = h 100 := Eq.trans e365 E156
                    have E382 : h372 103 = h 103 := Eq.trans e366 E157
                    have E383 : h372 105 = h 105 := Eq.trans e367 E158
                    have E384 : h372 106 = h 106 := Eq.trans e368 E159
                    have E385 : h372 109 = h 109 := Eq.trans e369 E160
                    have E386 : h372 114 = h 114 := Eq.trans e370 E161
                    show ov_R u d ov_m219 275 [(0, ov_r 90), (1, ov_i v5), (2, ov_i v41), (3, ov_i (350 + (4 * ((6 * v41) + v5)))), (4, ov_i v123), (5, ov_i v130), (6, ov_i (h 96 349))] [ov_i v356, ov_i ((350 + (4 * ((6 * v41) + v5))) + 2), ov_r 96] z371 h372 (P_Mo_readLight_90 F z h n)
                    have f387 : (h372 90 2) = (h146 90 2) ∧ (h372 90 13) = (h146 90 13) ∧ (h372 90 20) = (h146 90 20) ∧ (h372 90 22) = (h146 90 22) ∧ (h372 90 25) = (h146 90 25) ∧ (h372 90 26) = (h146 90 26) ∧ (h372 90 28) = (h146 90 28) ∧ (h372 90 29) = (h146 90 29) ∧ (h372 90 30) = (h146 90 30) ∧ (h372 90 34) = (h146 90 34) ∧ (h146 90 7) ≤ (h372 90 7) ∧ (h372 90 7) ≤ n ∧ (h146 90 8) ≤ (h372 90 8) ∧ ((h372 90 8) = 0 → (0 : Int) ≤ v356 ∧ v356 ≤ (v130 - 1)) ∧ (0 < (h372 90 8) → v356 = 0) := f355
                    clear f355
                    have R388 : ov_RD (h 96) (h 97) (h 98) (h 90 13) (h372 96) (h372 97) (h372 98) (h 90 13) := by rw [e361, e362, e363]; exact R353
                    have lt389 : ((ov_up (ov_up (ov_up h146 96 349 (h 96 349)) 96 (350 + (4 * ((6 * v41) + v5))) (1 + v123)) 96 ((350 + (4 * ((6 * v41) + v5))) + 1) v130) 96 340) = h146 96 340 := by try rw [ov_up_j (by omega)]; try rw [ov_up_j (by omega)]; try rw [ov_up_j (by omega)]; try rfl
                    have lt390 : h146 96 340 = h 96 340 := congrFun E152 340
                    have lt391 : ((ov_up (ov_up (ov_up h146 96 349 (h 96 349)) 96 (350 + (4 * ((6 * v41) + v5))) (1 + v123)) 96 ((350 + (4 * ((6 * v41) + v5))) + 1) v130) 96 341) = h146 96 341 := by try rw [ov_up_j (by omega)]; try rw [ov_up_j (by omega)]; try rw [ov_up_j (by omega)]; try rfl
                    have lt392 : h146 96 341 = h 96 341 := congrFun E152 341
                    have lt393 : ((ov_up (ov_up (ov_up h146 96 349 (h 96 349)) 96 (350 + (4 * ((6 * v41) + v5))) (1 + v123)) 96 ((350 + (4 * ((6 * v41) + v5))) + 1) v130) 96 342) = h146 96 342 := by try rw [ov_up_j (by omega)]; try rw [ov_up_j (by omega)]; try rw [ov_up_j (by omega)]; try rfl
                    have lt394 : h146 96 342 = h 96 342 := congrFun E152 342
                    have lt395 : ((ov_up (ov_up (ov_up h146 96 349 (h 96 349)) 96 (350 + (4 * ((6 * v41) + v5))) (1 + v123)) 96 ((350 + (4 * ((6 * v41) + v5))) + 1) v130) 96 348) = h146 96 348 := by try rw [ov_up_j (by omega)]; try rw [ov_up_j (by omega)]; try rw [ov_up_j (by omega)]; try rfl
                    have lt396 : h146 96 348 = h 96 348 := congrFun E152 348
                    have lt397 : ((ov_up (ov_up (ov_up h146 96 349 (h 96 349)) 96 (350 + (4 * ((6 * v41) + v5))) (1 + v123)) 96 ((350 + (4 * ((6 * v41) + v5))) + 1) v130) 96 349) = (h 96 349) := by try rw [ov_up_j (by omega)]; try rw [ov_up_j (by omega)]; try rw [ov_up_row, ov_rs_eq]; try rfl
                    have lt398 : h146 96 349 = h 96 349 := congrFun E152 349
                    have lt399 : h372 96 340 = ((ov_up (ov_up (ov_up h146 96 349 (h 96 349)) 96 (350 + (4 * ((6 * v41) + v5))) (1 + v123)) 96 ((350 + (4 * ((6 * v41) + v5))) + 1) v130) 96 340) := congrFun e361 340
                    have lt400 : h372 96 341 = ((ov_up (ov_up (ov_up h146 96 349 (h 96 349)) 96 (350 + (4 * ((6 * v41) + v5))) (1 + v123)) 96 ((350 + (4 * ((6 * v41) + v5))) + 1) v130) 96 341) := congrFun e361 341
                    have lt401 : h372 96 342 = ((ov_up (ov_up (ov_up h146 96 349 (h 96 349)) 96 (350 + (4 * ((6 * v41) + v5))) (1 + v123)) 96 ((350 + (4 * ((6 * v41) + v5))) + 1) v130) 96 342) := congrFun e361 342
                    have lt402 : h372 96 348 = ((ov_up (ov_up (ov_up h146 96 349 (h 96 349)) 96 (350 + (4 * ((6 * v41) + v5))) (1 + v123)) 96 ((350 + (4 * ((6 * v41) + v5))) + 1) v130) 96 348) := congrFun e361 348
                    have lt403 : h372 96 349 = ((ov_up (ov_up (ov_up h146 96 349 (h 96 349)) 96 (350 + (4 * ((6 * v41) + v5))) (1 + v123)) 96 ((350 + (4 * ((6 * v41) + v5))) + 1) v130) 96 349) := congrFun e361 349
                    refine ov_iast d_219_275 (zb_96 I373) (zs_96 I373) (by omega) ?_
                    have I404 := ua_96 (k := ((350 + (4 * ((6 * v41) + v5))) + 2)) (x := v356) I373 (by refine ⟨?_, ?_, ?_, ?_, ?_, ?_, ?_, ?_, ?_, ?_, ?_, ?_, ?_, ?_, ?_, ?_, ?_, ?_, ?_, ?_, ?_, ?_, ?_, ?_, ?_, ?_, ?_, ?_, ?_⟩ <;> omega)
                    have R405 : ov_RD (h 96) (h 97) (h 98) (h 90 13) ((ov_up h372 96 ((350 + (4 * ((6 * v41) + v5))) + 2) v356) 96) ((ov_up h372 96 ((350 + (4 * ((6 * v41) + v5))) + 2) v356) 97) ((ov_up h372 96 ((350 + (4 * ((6 * v41) + v5))) + 2) v356) 98) (h 90 13) := by rw [ov_up_row]; exact ov_RD_l R388 (t96_348 I373).2 (e := 6 * v41 + v5) (i := 2) (by omega) (Or.inl rfl) (by omega)
                    refine ov_blk (ls2 := [(0, ov_r 90), (1, ov_i v5), (2, ov_i v41), (3, ov_i (350 + (4 * ((6 * v41) + v5)))), (4, ov_i v123), (5, ov_i v130), (6, ov_i (h 96 349))]) (st2 := [ov_r 90]) (pc2 := 277) b_219_276_1 rfl rfl ?_
                    refine ov_getf (v := ov_r 96) d_219_277 fl_Mo_81 (zb_90 I404) (zs_90 I404) (congrArg ov_r (rg_90_10 I404)) ?_
                    refine ov_blk (ls2 := [(0, ov_r 90), (1, ov_i v5), (2, ov_i v41), (3, ov_i (350 + (4 * ((6 * v41) + v5)))), (4, ov_i v123), (5, ov_i v130), (6, ov_i (h 96 349))]) (st2 := [ov_i v130, ov_i 0, ov_i 12, ov_r 90, ov_i ((350 + (4 * ((6 * v41) + v5))) + 3), ov_r 96]) (pc2 := 289) b_219_280_7 rfl rfl ?_
                    have cf406 : h372 92 (n) = h 92 (n) := congrFun E374 (n)
                    refine ov_cV (as := [ov_i 12, ov_i 0, ov_i v130]) (st := [ov_i ((350 + (4 * ((6 * v41) + v5))) + 3), ov_r 96]) (d2 := d - 1) d_219_289 lk_Mo_232 rfl (Nat.le_of_ble_eq_true rfl) (c := 1) (zb_90 I404) (zs_90 I404) ⟨by decide, rfl⟩ (by omega) (c_Mo_takeAfter_90 n (d - 1) (by omega) U I404 12 0 v130 (by omega) (by omega) (by omega) (by show 0 ≤ n ∧ n ≤ 1000 ∧ (h372 92 (n)) = 0 ∧ (h372 90 7) ≤ n; omega) (by omega)) ?_
                    rintro _ z423 h424 ⟨v408, rfl, I425, f407, e409, e410, e411, e412, e413, e414, e415, e416, e417, e418, e419, e420, e421, e422⟩
                    have E426 : h424 92 = h 92 := Eq.trans e409 E374
                    have E427 : h424 93 = h 93 := Eq.trans e410 E375
                    have E428 : h424 94 = h 94 := Eq.trans e411 E376
                    have E429 : h424 95 = h 95 := Eq.trans e412 E377
                    have E430 : h424 97 = h 97 := Eq.trans e414 E378
                    have E431 : h424 98 = h 98 := Eq.trans e415 E379
                    have E432 : h424 99 = h 99 := Eq.trans e416 E380
                    have E433 : h424 100 = h 100 := Eq.trans e417 E381
                    have E434 : h424 103 = h 103 := Eq.trans e418 E382
                    have E435 : h424 105 = h 105 := Eq.trans e419 E383
                    have E436 : h424 106 = h 106 := Eq.trans e420 E384
                    have E437 : h424 109 = h 109 := Eq.trans e421 E385
                    have E438 : h424 114 = h 114 := Eq.trans e422 E386
                    show ov_R u d ov_m219 292 [(0, ov_r 90), (1, ov_i v5), (2, ov_i v41), (3, ov_i (350 + (4 * ((6 * v41) + v5)))), (4, ov_i v123), (5, ov_i v130), (6, ov_i (h 96 349))] [ov_i v408, ov_i ((350 + (4 * ((6 * v41) + v5))) + 3), ov_r 96] z423 h424 (P_Mo_readLight_90 F z h n)
                    have f439 : (h424 90 2) = (h372 90 2) ∧ (h424 90 13) = (h372 90 13) ∧ (h424 90 20) = (h372 90 20) ∧ (h424 90 22) = (h372 90 22) ∧ (h424 90 25) = (h372 90 25) ∧ (h424 90 26) = (h372 90 26) ∧ (h424 90 28) = (h372 90 28) ∧ (h424 90 29) = (h372 90 29) ∧ (h424 90 30) = (h372 90 30) ∧ (h424 90 34) = (h372 90 34) ∧ (h372 90 7) ≤ (h424 90 7) ∧ (h424 90 7) ≤ n ∧ (h372 90 8) ≤ (h424 90 8) ∧ ((h424 90 8) = 0 → (0 : Int) ≤ v408 ∧ v408 ≤ v130) ∧ (0 < (h424 90 8) → v408 = 0) := f407
                    clear f407
                    have R440 : ov_RD (h 96) (h 97) (h 98) (h 90 13) (h424 96) (h424 97) (h424 98) (h 90 13) := by rw [e413, e414, e415]; exact R405
                    have lt441 : ((ov_up h372 96 ((350 + (4 * ((6 * v41) + v5))) + 2) v356) 96 340) = h372 96 340 := by try rw [ov_up_j (by omega)]; try rfl
                    have lt442 : ((ov_up h372 96 ((350 + (4 * ((6 * v41) + v5))) + 2) v356) 96 341) = h372 96 341 := by try rw [ov_up_j (by omega)]; try rfl
                    have lt443 : ((ov_up h372 96 ((350 + (4 * ((6 * v41) + v5))) + 2) v356) 96 342) = h372 96 342 := by try rw [ov_up_j (by omega)]; try rfl
                    have lt444 : ((ov_up h372 96 ((350 + (4 * ((6 * v41) + v5))) + 2) v356) 96 348) = h372 96 348 := by try rw [ov_up_j (by omega)]; try rfl
                    have lt445 : ((ov_up h372 96 ((350 + (4 * ((6 * v41) + v5))) + 2) v356) 96 349) = h372 96 349 := by try rw [ov_up_j (by omega)]; try rfl
                    have lt446 : h424 96 340 = ((ov_up h372 96 ((350 + (4 * ((6 * v41) + v5))) + 2) v356) 96 340) := congrFun e413 340
                    have lt447 : h424 96 341 = ((ov_up h372 96 ((350 + (4 * ((6 * v41) + v5))) + 2) v356) 96 341) := congrFun e413 341
                    have lt448 : h424 96 342 = ((ov_up h372 96 ((350 + (4 * ((6 * v41) + v5))) + 2) v356) 96 342) := congrFun e413 342
                    have lt449 : h424 96 348 = ((ov_up h372 96 ((350 + (4 * ((6 * v41) + v5))) + 2) v356) 96 348) := congrFun e413 348
                    have lt450 : h424 96 349 = ((ov_up h372 96 ((350 + (4 * ((6 * v41) + v5))) + 2) v356) 96 349) := congrFun e413 349
                    refine ov_iast d_219_292 (zb_96 I425) (zs_96 I425) (by omega) ?_
                    have I451 := ua_96 (k := ((350 + (4 * ((6 * v41) + v5))) + 3)) (x := v408) I425 (by refine ⟨?_, ?_, ?_, ?_, ?_, ?_, ?_, ?_, ?_, ?_, ?_, ?_, ?_, ?_, ?_, ?_, ?_, ?_, ?_, ?_, ?_, ?_, ?_, ?_, ?_, ?_, ?_, ?_, ?_⟩ <;> omega)
                    have R452 : ov_RD (h 96) (h 97) (h 98) (h 90 13) ((ov_up h424 96 ((350 + (4 * ((6 * v41) + v5))) + 3) v408) 96) ((ov_up h424 96 ((350 + (4 * ((6 * v41) + v5))) + 3) v408) 97) ((ov_up h424 96 ((350 + (4 * ((6 * v41) + v5))) + 3) v408) 98) (h 90 13) := by rw [ov_up_row]; exact ov_RD_l R440 (t96_348 I425).2 (e := 6 * v41 + v5) (i := 3) (by omega) (Or.inr rfl) (by omega)
                    refine ov_blk (ls2 := [(0, ov_r 90), (1, ov_i v5), (2, ov_i v41), (3, ov_i (350 + (4 * ((6 * v41) + v5)))), (4, ov_i v123), (5, ov_i v130), (6, ov_i (h 96 349))]) (st2 := [ov_r 90]) (pc2 := 294) b_219_293_1 rfl rfl ?_
                    refine ov_getf (v := ov_r 96) d_219_294 fl_Mo_81 (zb_90 I451) (zs_90 I451) (congrArg ov_r (rg_90_10 I451)) ?_
                    refine ov_blk (ls2 := [(0, ov_r 90), (1, ov_i v5), (2, ov_i v41), (3, ov_i (350 + (4 * ((6 * v41) + v5)))), (4, ov_i v123), (5, ov_i v130), (6, ov_i (h 96 349))]) (st2 := [ov_i 347, ov_r 96, ov_i 347, ov_r 96]) (pc2 := 301) b_219_297_2 rfl rfl ?_
                    refine ov_iald d_219_301 (zb_96 I451) (zs_96 I451) (by omega) ?_
                    show ov_R u d ov_m219 302 [(0, ov_r 90), (1, ov_i v5), (2, ov_i v41), (3, ov_i (350 + (4 * ((6 * v41) + v5)))), (4, ov_i v123), (5, ov_i v130), (6, ov_i (h 96 349))] [ov_i ((ov_up h424 96 ((350 + (4 * ((6 * v41) + v5))) + 3) v408) 96 347), ov_i 347, ov_r 96] z423 (ov_up h424 96 ((350 + (4 * ((6 * v41) + v5))) + 3) v408) (P_Mo_readLight_90 F z h n)
                    refine ov_blk (ls2 := [(0, ov_r 90), (1, ov_i v5), (2, ov_i v41), (3, ov_i (350 + (4 * ((6 * v41) + v5)))), (4, ov_i v123), (5, ov_i v130), (6, ov_i (h 96 349))]) (st2 := [ov_i (((ov_up h424 96 ((350 + (4 * ((6 * v41) + v5))) + 3) v408) 96 347) + 1), ov_i 347, ov_r 96]) (pc2 := 304) b_219_302_2 rfl rfl ?_
                    refine ov_havw (fun w453 gw453 qw453 => ?_)
                    refine ov_iast d_219_304 (zb_96 I451) (zs_96 I451) (by omega) ?_
                    have I454 := ua_96 (k := 347) (x := w453) I451 (by refine ⟨?_, ?_, ?_, ?_, ?_, ?_, ?_, ?_, ?_, ?_, ?_, ?_, ?_, ?_, ?_, ?_, ?_, ?_, ?_, ?_, ?_, ?_, ?_, ?_, ?_, ?_, ?_, ?_, ?_⟩ <;> omega)
                    have R455 : ov_RD (h 96) (h 97) (h 98) (h 90 13) ((ov_up (ov_up h424 96 ((350 + (4 * ((6 * v41) + v5))) + 3) v408) 96 347 w453) 96) ((ov_up (ov_up h424 96 ((350 + (4 * ((6 * v41) + v5))) + 3) v408) 96 347 w453) 97) ((ov_up (ov_up h424 96 ((350 + (4 * ((6 * v41) + v5))) + 3) v408) 96 347 w453) 98) (h 90 13) := by rw [ov_up_row]; exact ov_RD_w R452 (t96_348 I451).2 (by omega)
                    have lt456 : ((ov_up h424 96 ((350 + (4 * ((6 * v41) + v5))) + 3) v408) 96 340) = h424 96 340 := by try rw [ov_up_j (by omega)]; try rw [ov_up_j (by omega)]; try rfl
                    have lt457 : ((ov_up h424 96 ((350 + (4 * ((6 * v41) + v5))) + 3) v408) 96 341) = h424 96 341 := by try rw [ov_up_j (by omega)]; try rw [ov_up_j (by omega)]; try rfl
                    have lt458 : ((ov_up h424 96 ((350 + (4 * ((6 * v41) + v5))) + 3) v408) 96 342) = h424 96 342 := by try rw [ov_up_j (by omega)]; try rw [ov_up_j (by omega)]; try rfl
                    have lt459 : ((ov_up h424 96 ((350 + (4 * ((6 * v41) + v5))) + 3) v408) 96 348) = h424 96 348 := by try rw [ov_up_j (by omega)]; try rw [ov_up_j (by omega)]; try rfl
                    have lt460 : ((ov_up h424 96 ((350 + (4 * ((6 * v41) + v5))) + 3) v408) 96 349) = h424 96 349 := by try rw [ov_up_j (by omega)]; try rw [ov_up_j (by omega)]; try rfl
                    exact ov_retv (st := []) d_219_305 rfl ⟨rfl, I454, (by show (h424 90 2) = (h 90 2) ∧ (h424 90 13) = (h 90 13) ∧ (h424 90 20) = (h 90 20) ∧ (h424 90 22) = (h 90 22) ∧ (h424 90 25) = (h 90 25) ∧ (h424 90 26) = (h 90 26) ∧ (h424 90 28) = (h 90 28) ∧ (h424 90 29) = (h 90 29) ∧ (h424 90 30) = (h 90 30) ∧ (h424 90 34) = (h 90 34) ∧ (h 90 7) ≤ (h424 90 7) ∧ (h424 90 7) ≤ n ∧ (h 90 13) ≤ (h424 90 13) ∧ (h424 90 13) - (h 90 13) ≤ (h424 90 7) - (h 90 7) ∧ ((ov_up h424 96 ((350 + (4 * ((6 * v41) + v5))) + 3) v408) 96 340) = (h 96 340) ∧ ((ov_up h424 96 ((350 + (4 * ((6 * v41) + v5))) + 3) v408) 96 341) = (h 96 341) ∧ ((h424 90 8) = 0 → 1 ≤ (h 96 342) → 1 ≤ ((ov_up h424 96 ((350 + (4 * ((6 * v41) + v5))) + 3) v408) 96 342)) ∧ (1 ≤ (h 96 349) → 1 ≤ ((ov_up h424 96 ((350 + (4 * ((6 * v41) + v5))) + 3) v408) 96 349)); omega), E426, E427, E428, E429, E430, E431, E432, E433, E434, E435, E436, E437, E438, R455.1, R455.2.1, (fun _ w => by show ov_CS ((ov_up (ov_up h424 96 ((350 + (4 * ((6 * v41) + v5))) + 3) v408) 96 347 w453) 96) ((ov_up (ov_up h424 96 ((350 + (4 * ((6 * v41) + v5))) + 3) v408) 96 347 w453) 97) ((ov_up (ov_up h424 96 ((350 + (4 * ((6 * v41) + v5))) + 3) v408) 96 347 w453) 98) (h424 90 13); rw [show (h424 90 13) = h 90 13 by omega]; exact R455.2.2 w)⟩
                  · omega
                · skip
                  refine ov_blk (ls2 := [(0, ov_r 90), (1, ov_i v5), (2, ov_i v41), (3, ov_i (350 + (4 * ((6 * v41) + v5)))), (4, ov_i v123), (5, ov_i v130), (6, ov_i (h 96 349))]) (st2 := [ov_r 90, ov_r 90]) (pc2 := 206) b_219_204_2 rfl rfl ?_
                  refine ov_getf (v := ov_i (h146 90 7)) d_219_206 fl_Mo_177 (zb_90 I147) (zs_90 I147) rfl ?_
                  have g461 := rg_90_7 I147
                  refine ov_blk (ls2 := [(0, ov_r 90), (1, ov_i v5), (2, ov_i v41), (3, ov_i (350 + (4 * ((6 * v41) + v5)))), (4, ov_i v123), (5, ov_i v130), (6, ov_i (h 96 349))]) (st2 := [ov_i ((h146 90 7) - 1), ov_r 90]) (pc2 := 211) b_219_209_2 rfl rfl ?_
                  refine ov_putf (x := ((h146 90 7) - 1)) d_219_211 fl_Mo_177 (zb_90 I147) (zs_90 I147) rfl nk_0 rfl ?_
                  have I462 := up_90_7 (x := ((h146 90 7) - 1)) I147 (by omega)
                  refine ov_blk (ls2 := [(0, ov_r 90), (1, ov_i v5), (2, ov_i v41), (3, ov_i (350 + (4 * ((6 * v41) + v5)))), (4, ov_i v123), (5, ov_i v130), (6, ov_i (h 96 349))]) (st2 := [ov_i 4, ov_r 90]) (pc2 := 216) b_219_214_2 rfl rfl ?_
                  refine ov_cV (as := [ov_i 4]) (st := []) (d2 := d - 1) d_219_216 lk_Mo_186 rfl (Nat.le_of_ble_eq_true rfl) (c := 1) (zb_90 I462) (zs_90 I462) ⟨by decide, rfl⟩ (by omega) (c_Mo_wrong_90 (d - 1) (by omega) U I462 4 (by omega) (by omega)) ?_
                  rintro _ z478 h479 ⟨rfl, I480, f463, e464, e465, e466, e467, e468, e469, e470, e471, e472, e473, e474, e475, e476, e477⟩
                  have E481 : h479 92 = h 92 := Eq.trans e464 E148
                  have E482 : h479 93 = h 93 := Eq.trans e465 E149
                  have E483 : h479 94 = h 94 := Eq.trans e466 E150
                  have E484 : h479 95 = h 95 := Eq.trans e467 E151
                  have E485 : h479 96 = h 96 := Eq.trans e468 E152
                  have E486 : h479 97 = h 97 := Eq.trans e469 E153
                  have E487 : h479 98 = h 98 := Eq.trans e470 E154
                  have E488 : h479 99 = h 99 := Eq.trans e471 E155
                  have E489 : h479 100 = h 100 := Eq.trans e472 E156
                  have E490 : h479 103 = h 103 := Eq.trans e473 E157
                  have E491 : h479 105 = h 105 := Eq.trans e474 E158
                  have E492 : h479 106 = h 106 := Eq.trans e475 E159
                  have E493 : h479 109 = h 109 := Eq.trans e476 E160
                  have E494 : h479 114 = h 114 := Eq.trans e477 E161
                  show ov_R u d ov_m219 219 [(0, ov_r 90), (1, ov_i v5), (2, ov_i v41), (3, ov_i (350 + (4 * ((6 * v41) + v5)))), (4, ov_i v123), (5, ov_i v130), (6, ov_i (h 96 349))] [] z478 h479 (P_Mo_readLight_90 F z h n)
                  have f495 : (h479 90 2) = (h146 90 2) ∧ (h479 90 7) = ((h146 90 7) - 1) ∧ (h479 90 13) = (h146 90 13) ∧ (h479 90 20) = (h146 90 20) ∧ (h479 90 22) = (h146 90 22) ∧ (h479 90 25) = (h146 90 25) ∧ (h479 90 26) = (h146 90 26) ∧ (h479 90 28) = (h146 90 28) ∧ (h479 90 29) = (h146 90 29) ∧ (h479 90 30) = (h146 90 30) ∧ (h479 90 34) = (h146 90 34) ∧ 0 < (h479 90 8) ∧ (h146 90 8) ≤ (h479 90 8) := f463
                  clear f463
                  refine ov_blk (ls2 := [(0, ov_r 90), (1, ov_i v5), (2, ov_i v41), (3, ov_i (350 + (4 * ((6 * v41) + v5)))), (4, ov_i v123), (5, ov_i v130), (6, ov_i (h 96 349))]) (st2 := [ov_r 90]) (pc2 := 220) b_219_219_1 rfl rfl ?_
                  refine ov_getf (v := ov_i (h479 90 8)) d_219_220 fl_Mo_180 (zb_90 I480) (zs_90 I480) rfl ?_
                  have g496 := rg_90_8 I480
                  refine ov_ifle (tgt := 227) d_219_223 (by decide) (by omega) (fun c497 => ?_) (fun c497 => ?_)
                  · omega
                  · skip
                    have cf498 : h479 96 340 = h 96 340 := congrFun E485 340
                    have cf499 : h479 96 341 = h 96 341 := congrFun E485 341
                    have cf500 : h479 96 342 = h 96 342 := congrFun E485 342
                    have cf501 : h479 96 349 = h 96 349 := congrFun E485 349
                    have R502 : ov_RD (h 96) (h 97) (h 98) (h 90 13) (h479 96) (h479 97) (h479 98) (h 90 13) := by rw [show h479 96 = h 96 from E485, show h479 97 = h 97 from E486, show h479 98 = h 98 from E487]; exact ov_RD_refl _ _ _ _
                    exact ov_retv (st := []) d_219_226 rfl ⟨rfl, I480, (by show (h479 90 2) = (h 90 2) ∧ (h479 90 13) = (h 90 13) ∧ (h479 90 20) = (h 90 20) ∧ (h479 90 22) = (h 90 22) ∧ (h479 90 25) = (h 90 25) ∧ (h479 90 26) = (h 90 26) ∧ (h479 90 28) = (h 90 28) ∧ (h479 90 29) = (h 90 29) ∧ (h479 90 30) = (h 90 30) ∧ (h479 90 34) = (h 90 34) ∧ (h 90 7) ≤ (h479 90 7) ∧ (h479 90 7) ≤ n ∧ (h 90 13) ≤ (h479 90 13) ∧ (h479 90 13) - (h 90 13) ≤ (h479 90 7) - (h 90 7) ∧ (h479 96 340) = (h 96 340) ∧ (h479 96 341) = (h 96 341) ∧ ((h479 90 8) = 0 → 1 ≤ (h 96 342) → 1 ≤ (h479 96 342)) ∧ (1 ≤ (h 96 349) → 1 ≤ (h479 96 349)); omega), E481, E482, E483, E484, E486, E487, E488, E489, E490, E491, E492, E493, E494, R502.1, R502.2.1, (fun _ w => by show ov_CS (h479 96) (h479 97) (h479 98) (h479 90 13); rw [show (h479 90 13) = h 90 13 by omega]; exact R502.2.2 w)⟩
        · skip
          refine ov_blk (ls2 := [(0, ov_r 90), (1, ov_i v5), (2, ov_i v41), (3, ov_i (350 + (4 * ((6 * v41) + v5)))), (4, ov_i v123)]) (st2 := [ov_i 1, ov_r 90]) (pc2 := 113) b_219_111_2 rfl rfl ?_
          refine ov_cV (as := [ov_i 1]) (st := []) (d2 := d - 1) d_219_113 lk_Mo_186 rfl (Nat.le_of_ble_eq_true rfl) (c := 1) (zb_90 I58) (zs_90 I58) ⟨by decide, rfl⟩ (by omega) (c_Mo_wrong_90 (d - 1) (by omega) U I58 1 (by omega) (by omega)) ?_
          rintro _ z518 h519 ⟨rfl, I520, f503, e504, e505, e506, e507, e508, e509, e510, e511, e512, e513, e514, e515, e516, e517⟩
          have E521 : h519 92 = h 92 := Eq.trans e504 E59
          have E522 : h519 93 = h 93 := Eq.trans e505 E60
          have E523 : h519 94 = h 94 := Eq.trans e506 E61
          have E524 : h519 95 = h 95 := Eq.trans e507 E62
          have E525 : h519 96 = h 96 := Eq.trans e508 E63
          have E526 : h519 97 = h 97 := Eq.trans e509 E64
          have E527 : h519 98 = h 98 := Eq.trans e510 E65
          have E528 : h519 99 = h 99 := Eq.trans e511 E66
          have E529 : h519 100 = h 100 := Eq.trans e512 E67
          have E530 : h519 103 = h 103 := Eq.trans e513 E68
          have E531 : h519 105 = h 105 := Eq.trans e514 E69
          have E532 : h519 106 = h 106 := Eq.trans e515 E70
          have E533 : h519 109 = h 109 := Eq.trans e516 E71
          have E534 : h519 114 = h 114 := Eq.trans e517 E72
          show ov_R u d ov_m219 116 [(0, ov_r 90), (1, ov_i v5), (2, ov_i v41), (3, ov_i (350 + (4 * ((6 * v41) + v5)))), (4, ov_i v123)] [] z518 h519 (P_Mo_readLight_90 F z h n)
          have f535 : (h519 90 2) = (h57 90 2) ∧ (h519 90 7) = (h57 90 7) ∧ (h519 90 13) = (h57 90 13) ∧ (h519 90 20) = (h57 90 20) ∧ (h519 90 22) = (h57 90 22) ∧ (h519 90 25) = (h57 90 25) ∧ (h519 90 26) = (h57 90 26) ∧ (h519 90 28) = (h57 90 28) ∧ (h519 90 29) = (h57 90 29) ∧ (h519 90 30) = (h57 90 30) ∧ (h519 90 34) = (h57 90 34) ∧ 0 < (h519 90 8) ∧ (h57 90 8) ≤ (h519 90 8) := f503
          clear f503
          have cf536 : h519 96 340 = h 96 340 := congrFun E525 340
          have cf537 : h519 96 341 = h 96 341 := congrFun E525 341
          have cf538 : h519 96 342 = h 96 342 := congrFun E525 342
          have cf539 : h519 96 349 = h 96 349 := congrFun E525 349
          have R540 : ov_RD (h 96) (h 97) (h 98) (h 90 13) (h519 96) (h519 97) (h519 98) (h 90 13) := by rw [show h519 96 = h 96 from E525, show h519 97 = h 97 from E526, show h519 98 = h 98 from E527]; exact ov_RD_refl _ _ _ _
          exact ov_retv (st := []) d_219_116 rfl ⟨rfl, I520, (by show (h519 90 2) = (h 90 2) ∧ (h519 90 13) = (h 90 13) ∧ (h519 90 20) = (h 90 20) ∧ (h519 90 22) = (h 90 22) ∧ (h519 90 25) = (h 90 25) ∧ (h519 90 26) = (h 90 26) ∧ (h519 90 28) = (h 90 28) ∧ (h519 90 29) = (h 90 29) ∧ (h519 90 30) = (h 90 30) ∧ (h519 90 34) = (h 90 34) ∧ (h 90 7) ≤ (h519 90 7) ∧ (h519 90 7) ≤ n ∧ (h 90 13) ≤ (h519 90 13) ∧ (h519 90 13) - (h 90 13) ≤ (h519 90 7) - (h 90 7) ∧ (h519 96 340) = (h 96 340) ∧ (h519 96 341) = (h 96 341) ∧ ((h519 90 8) = 0 → 1 ≤ (h 96 342) → 1 ≤ (h519 96 342)) ∧ (1 ≤ (h 96 349) → 1 ≤ (h519 96 349)); omega), E521, E522, E523, E524, E526, E527, E528, E529, E530, E531, E532, E533, E534, R540.1, R540.2.1, (fun _ w => by show ov_CS (h519 96) (h519 97) (h519 98) (h519 90 13); rw [show (h519 90 13) = h 90 13 by omega]; exact R540.2.2 w)⟩
      · omega
    · skip
      refine ov_blk (ls2 := [(0, ov_r 90), (1, ov_i v5), (2, ov_i v41), (3, ov_i (350 + (4 * ((6 * v41) + v5))))]) (st2 := [ov_r 90, ov_r 90]) (pc2 := 73) b_219_71_2 rfl rfl ?_
      refine ov_getf (v := ov_i (h57 90 7)) d_219_73 fl_Mo_177 (zb_90 I58) (zs_90 I58) rfl ?_
      have g541 := rg_90_7 I58
      refine ov_blk (ls2 := [(0, ov_r 90), (1, ov_i v5), (2, ov_i v41), (3, ov_i (350 + (4 * ((6 * v41) + v5))))]) (st2 := [ov_i ((h57 90 7) - 1), ov_r 90]) (pc2 := 78) b_219_76_2 rfl rfl ?_
      refine ov_putf (x := ((h57 90 7) - 1)) d_219_78 fl_Mo_177 (zb_90 I58) (zs_90 I58) rfl nk_0 rfl ?_
      have I542 := up_90_7 (x := ((h57 90 7) - 1)) I58 (by omega)
      refine ov_blk (ls2 := [(0, ov_r 90), (1, ov_i v5), (2, ov_i v41), (3, ov_i (350 + (4 * ((6 * v41) + v5))))]) (st2 := [ov_i 3, ov_r 90]) (pc2 := 83) b_219_81_2 rfl rfl ?_
      refine ov_cV (as := [ov_i 3]) (st := []) (d2 := d - 1) d_219_83 lk_Mo_186 rfl (Nat.le_of_ble_eq_true rfl) (c := 1) (zb_90 I542) (zs_90 I542) ⟨by decide, rfl⟩ (by omega) (c_Mo_wrong_90 (d - 1) (by omega) U I542 3 (by omega) (by omega)) ?_
      rintro _ z558 h559 ⟨rfl, I560, f543, e544, e545, e546, e547, e548, e549, e550, e551, e552, e553, e554, e555, e556, e557⟩
      have E561 : h559 92 = h 92 := Eq.trans e544 E59
      have E562 : h559 93 = h 93 := Eq.trans e545 E60
      have E563 : h559 94 = h 94 := Eq.trans e546 E61
      have E564 : h559 95 = h 95 := Eq.trans e547 E62
      have E565 : h559 96 = h 96 := Eq.trans e548 E63
      have E566 : h559 97 = h 97 := Eq.trans e549 E64
      have E567 : h559 98 = h 98 := Eq.trans e550 E65
      have E568 : h559 99 = h 99 := Eq.trans e551 E66
      have E569 : h559 100 = h 100 := Eq.trans e552 E67
      have E570 : h559 103 = h 103 := Eq.trans e553 E68
      have E571 : h559 105 = h 105 := Eq.trans e554 E69
      have E572 : h559 106 = h 106 := Eq.trans e555 E70
      have E573 : h559 109 = h 109 := Eq.trans e556 E71
      have E574 : h559 114 = h 114 := Eq.trans e557 E72
      show ov_R u d ov_m219 86 [(0, ov_r 90), (1, ov_i v5), (2, ov_i v41), (3, ov_i (350 + (4 * ((6 * v41) + v5))))] [] z558 h559 (P_Mo_readLight_90 F z h n)
      have f575 : (h559 90 2) = (h57 90 2) ∧ (h559 90 7) = ((h57 90 7) - 1) ∧ (h559 90 13) = (h57 90 13) ∧ (h559 90 20) = (h57 90 20) ∧ (h559 90 22) = (h57 90 22) ∧ (h559 90 25) = (h57 90 25) ∧ (h559 90 26) = (h57 90 26) ∧ (h559 90 28) = (h57 90 28) ∧ (h559 90 29) = (h57 90 29) ∧ (h559 90 30) = (h57 90 30) ∧ (h559 90 34) = (h57 90 34) ∧ 0 < (h559 90 8) ∧ (h57 90 8) ≤ (h559 90 8) := f543
      clear f543
      refine ov_blk (ls2 := [(0, ov_r 90), (1, ov_i v5), (2, ov_i v41), (3, ov_i (350 + (4 * ((6 * v41) + v5))))]) (st2 := [ov_r 90]) (pc2 := 87) b_219_86_1 rfl rfl ?_
      refine ov_getf (v := ov_i (h559 90 8)) d_219_87 fl_Mo_180 (zb_90 I560) (zs_90 I560) rfl ?_
      have g576 := rg_90_8 I560
      refine ov_ifle (tgt := 97) d_219_90 (by decide) (by omega) (fun c577 => ?_) (fun c577 => ?_)
      · omega
      · skip
        refine ov_blk (ls2 := [(0, ov_r 90), (1, ov_i v5), (2, ov_i v41), (3, ov_i (350 + (4 * ((6 * v41) + v5))))]) (st2 := [ov_i (-1)]) (pc2 := 94) b_219_93_1 rfl rfl ?_
        refine ov_goto (tgt := 104) d_219_94 (by decide) ?_
        refine ov_blk (ls2 := [(0, ov_r 90), (1, ov_i v5), (2, ov_i v41), (3, ov_i (350 + (4 * ((6 * v41) + v5)))), (4, ov_i (-1))]) (st2 := [ov_i (-1)]) (pc2 := 108) b_219_104_2 rfl rfl ?_
        refine ov_ifge (tgt := 117) d_219_108 (by decide) (by omega) (fun c578 => ?_) (fun c578 => ?_)
        · omega
        · skip
          refine ov_blk (ls2 := [(0, ov_r 90), (1, ov_i v5), (2, ov_i v41), (3, ov_i (350 + (4 * ((6 * v41) + v5)))), (4, ov_i (-1))]) (st2 := [ov_i 1, ov_r 90]) (pc2 := 113) b_219_111_2 rfl rfl ?_
          refine ov_cV (as := [ov_i 1]) (st := []) (d2 := d - 1) d_219_113 lk_Mo_186 rfl (Nat.le_of_ble_eq_true rfl) (c := 1) (zb_90 I560) (zs_90 I560) ⟨by decide, rfl⟩ (by omega) (c_Mo_wrong_90 (d - 1) (by omega) U I560 1 (by omega) (by omega)) ?_
          rintro _ z594 h595 ⟨rfl, I596, f579, e580, e581, e582, e583, e584, e585, e586, e587, e588, e589, e590, e591, e592, e593⟩
          have E597 : h595 92 = h 92 := Eq.trans e580 E561
          have E598 : h595 93 = h 93 := Eq.trans e581 E562
          have E599 : h595 94 = h 94 := Eq.trans e582 E563
          have E600 : h595 95 = h 95 := Eq.trans e583 E564
          have E601 : h595 96 = h 96 := Eq.trans e584 E565
          have E602 : h595 97 = h 97 := Eq.trans e585 E566
          have E603 : h595 98 = h 98 := Eq.trans e586 E567
          have E604 : h595 99 = h 99 := Eq.trans e587 E568
          have E605 : h595 100 = h 100 := Eq.trans e588 E569
          have E606 : h595 103 = h 103 := Eq.trans e589 E570
          have E607 : h595 105 = h 105 := Eq.trans e590 E571
          have E608 : h595 106 = h 106 := Eq.trans e591 E572
          have E609 : h595 109 = h 109 := Eq.trans e592 E573
          have E610 : h595 114 = h 114 := Eq.trans e593 E574
          show ov_R u d ov_m219 116 [(0, ov_r 90), (1, ov_i v5), (2, ov_i v41), (3, ov_i (350 + (4 * ((6 * v41) + v5)))), (4, ov_i (-1))] [] z594 h595 (P_Mo_readLight_90 F z h n)
          have f611 : (h595 90 2) = (h559 90 2) ∧ (h595 90 7) = (h559 90 7) ∧ (h595 90 13) = (h559 90 13) ∧ (h595 90 20) = (h559 90 20) ∧ (h595 90 22) = (h559 90 22) ∧ (h595 90 25) = (h559 90 25) ∧ (h595 90 26) = (h559 90 26) ∧ (h595 90 28) = (h559 90 28) ∧ (h595 90 29) = (h559 90 29) ∧ (h595 90 30) = (h559 90 30) ∧ (h595 90 34) = (h559 90 34) ∧ 0 < (h595 90 8) ∧ (h559 90 8) ≤ (h595 90 8) := f579
          clear f579
          have cf612 : h595 96 340 = h 96 340 := congrFun E601 340
          have cf613 : h595 96 341 = h 96 341 := congrFun E601 341
          have cf614 : h595 96 342 = h 96 342 := congrFun E601 342
          have cf615 : h595 96 349 = h 96 349 := congrFun E601 349
          have R616 : ov_RD (h 96) (h 97) (h 98) (h 90 13) (h595 96) (h595 97) (h595 98) (h 90 13) := by rw [show h595 96 = h 96 from E601, show h595 97 = h 97 from E602, show h595 98 = h 98 from E603]; exact ov_RD_refl _ _ _ _
          exact ov_retv (st := []) d_219_116 rfl ⟨rfl, I596, (by show (h595 90 2) = (h 90 2) ∧ (h595 90 13) = (h 90 13) ∧ (h595 90 20) = (h 90 20) ∧ (h595 90 22) = (h 90 22) ∧ (h595 90 25) = (h 90 25) ∧ (h595 90 26) = (h 90 26) ∧ (h595 90 28) = (h 90 28) ∧ (h595 90 29) = (h 90 29) ∧ (h595 90 30) = (h 90 30) ∧ (h595 90 34) = (h 90 34) ∧ (h 90 7) ≤ (h595 90 7) ∧ (h595 90 7) ≤ n ∧ (h 90 13) ≤ (h595 90 13) ∧ (h595 90 13) - (h 90 13) ≤ (h595 90 7) - (h 90 7) ∧ (h595 96 340) = (h 96 340) ∧ (h595 96 341) = (h 96 341) ∧ ((h595 90 8) = 0 → 1 ≤ (h 96 342) → 1 ≤ (h595 96 342)) ∧ (1 ≤ (h 96 349) → 1 ≤ (h595 96 349)); omega), E597, E598, E599, E600, E602, E603, E604, E605, E606, E607, E608, E609, E610, R616.1, R616.2.1, (fun _ w => by show ov_CS (h595 96) (h595 97) (h595 98) (h595 90 13); rw [show (h595 90 13) = h 90 13 by omega]; exact R616.2.2 w)⟩
abbrev P_Mo_readRule_90 (F : ov_H × ov_Z) (z : ov_Z) (h : ov_H) (n : Int) : Option ov_V → ov_Z → ov_H → Prop := fun r0 z' h' => r0 = none ∧ ov_N F z' h' ∧ ((h' 90 2) = (h 90 2) ∧ (h' 90 20) = (h 90 20) ∧ (h' 90 22) = (h 90 22) ∧ (h' 90 25) = (h 90 25) ∧ (h' 90 26) = (h 90 26) ∧ (h' 90 28) = (h 90 28) ∧ (h' 90 29) = (h 90 29) ∧ (h' 90 30) = (h 90 30) ∧ (h' 90 34) = (h 90 34) ∧ (h 90 7) ≤ (h' 90 7) ∧ (h' 90 7) ≤ n ∧ (h 90 13) ≤ (h' 90 13) ∧ (h' 90 13) - (h 90 13) ≤ (h' 90 7) - (h 90 7) ∧ (h' 96 340) = (h 96 340) ∧ (h' 96 341) = (h 96 341) ∧ ((h' 90 8) = 0 → 1 ≤ (h 96 342) → 1 ≤ (h' 96 342)) ∧ (1 ≤ (h 96 349) → 1 ≤ (h' 96 349))) ∧ h' 92 = h 92 ∧ h' 93 = h 93 ∧ h' 94 = h 94 ∧ h' 95 = h 95 ∧ h' 100 = h 100 ∧ h' 103 = h 103 ∧ h' 105 = h 105 ∧ h' 106 = h 106 ∧ h' 109 = h 109 ∧ h' 114 = h 114 ∧ (ov_MK (h 96) (h 97) (h 98) (h' 96) (h' 97) (h' 98)) ∧ (ov_WS (h 96) → ov_WS (h' 96)) ∧ ((h' 90 8) = 0 → ov_CS (h 96) (h 97) (h 98) (h 90 13) → ov_CS (h' 96) (h' 97) (h' 98) (h' 90 13))
set_option maxHeartbeats 4000000 in
theorem c_Mo_readRule_90 {u : ov_U} {F : ov_H × ov_Z} (n : Int) {z : ov_Z} {h : ov_H} (d : Nat) (hd : 50 ≤ d) (U : ov_cap u) (I : ov_N F z h) (p0 : 0 ≤ n ∧ n ≤ 1000 ∧ (h 92 (n)) = 0 ∧ (h 90 7) ≤ n) (p1 : (h 90 13) ≤ (h 90 7)) (p2 : (h 90 8) = 0) (p3 : (h 90 7) < n) : ov_T u d ov_m224 [ov_r 90] z h (P_Mo_readRule_90 F z h n) := by
  refine ov_en rfl (Nat.le_of_ble_eq_true rfl) ?_
  show ov_R u d ov_m224 0 [(0, ov_r 90)] [] z h (P_Mo_readRule_90 F z h n)
  refine ov_blk (ls2 := [(0, ov_r 90)]) (st2 := [ov_r 90]) (pc2 := 1) b_224_0_1 rfl rfl ?_
  refine ov_getf (v := ov_r 96) d_224_1 fl_Mo_81 (zb_90 I) (zs_90 I) (congrArg ov_r (rg_90_10 I)) ?_
  refine ov_blk (ls2 := [(0, ov_r 90)]) (st2 := [ov_i 348, ov_r 96]) (pc2 := 7) b_224_4_1 rfl rfl ?_
  refine ov_iald d_224_7 (zb_96 I) (zs_96 I) (by omega) ?_
  have g1 := t96_348 I
  refine ov_blk (ls2 := [(0, ov_r 90), (1, ov_i (h 96 348))]) (st2 := [ov_i 4, ov_i (h 96 348)]) (pc2 := 11) b_224_8_3 rfl rfl ?_
  refine ov_icne (tgt := 20) d_224_11 (by decide) (by omega) (by omega) (fun c2 => ?_) (fun c2 => ?_)
  · skip
    refine ov_blk (ls2 := [(0, ov_r 90), (1, ov_i (h 96 348))]) (st2 := [ov_r 90, ov_r 90]) (pc2 := 22) b_224_20_2 rfl rfl ?_
    refine ov_getf (v := ov_i (h 90 7)) d_224_22 fl_Mo_177 (zb_90 I) (zs_90 I) rfl ?_
    have g3 := rg_90_7 I
    refine ov_blk (ls2 := [(0, ov_r 90), (1, ov_i (h 96 348))]) (st2 := [ov_i ((h 90 7) + 1), ov_r 90]) (pc2 := 27) b_224_25_2 rfl rfl ?_
    refine ov_putf (x := ((h 90 7) + 1)) d_224_27 fl_Mo_177 (zb_90 I) (zs_90 I) rfl nk_0 rfl ?_
    have I4 := up_90_7 (x := ((h 90 7) + 1)) I (by omega)
    refine ov_blk (ls2 := [(0, ov_r 90), (1, ov_i (h 96 348)), (2, ov_i 0), (3, ov_i 0)]) (st2 := []) (pc2 := 34) b_224_30_4 rfl rfl ?_
    have L8 : ∀ (n5 : Nat) (x2 : Int) (x3 : Int) (q7 : (x2 = 0 ∨ x2 = 1) ∧ 0 ≤ x3 ∧ x3 ≤ 4), 4 - x3 < (n5 : Int) → ov_R u d ov_m224 34 [(0, ov_r 90), (1, ov_i (h 96 348)), (2, ov_i x2), (3, ov_i x3)] [] z (ov_up h 90 7 ((h 90 7) + 1)) (P_Mo_readRule_90 F z h n) := by
      intro n5
      induction n5 with
      | zero =>
        intro x2 x3 q7 hn9
        exact absurd hn9 (by omega)
      | succ n5 ih6 =>
        intro x2 x3 q7 hn9
        refine ov_blk (ls2 := [(0, ov_r 90), (1, ov_i (h 96 348)), (2, ov_i x2), (3, ov_i x3)]) (st2 := [ov_i (h 96 348), ov_i x3]) (pc2 := 36) b_224_34_2 rfl rfl ?_
        refine ov_icge (tgt := 81) d_224_36 (by decide) (by omega) (by omega) (fun c10 => ?_) (fun c10 => ?_)
        · skip
          refine ov_blk (ls2 := [(0, ov_r 90), (1, ov_i (h 96 348)), (2, ov_i x2), (3, ov_i x3)]) (st2 := [ov_r 90]) (pc2 := 82) b_224_81_1 rfl rfl ?_
          refine ov_cV (as := []) (st := []) (d2 := d - 1) d_224_82 lk_Mo_239 rfl (Nat.le_of_ble_eq_true rfl) (c := 1) (zb_90 I4) (zs_90 I4) ⟨by decide, rfl⟩ (by omega) (c_Mo_isName_90 n (d - 1) (by omega) U I4 (by show 0 ≤ n ∧ n ≤ 1000 ∧ (h 92 (n)) = 0 ∧ ((h 90 7) + 1) ≤ n; omega)) ?_
          rintro _ _ _ ⟨v12, rfl, rfl, rfl, f11⟩
          show ov_R u d ov_m224 85 [(0, ov_r 90), (1, ov_i (h 96 348)), (2, ov_i x2), (3, ov_i x3)] [ov_i v12] z (ov_up h 90 7 ((h 90 7) + 1)) (P_Mo_readRule_90 F z h n)
          have f13 : (v12 = 0 ∨ v12 = 1) ∧ (v12 = 1 → ((h 90 7) + 1) < n) := f11
          clear f11
          refine ov_ifne (tgt := 96) d_224_85 (by decide) (by omega) (fun c14 => ?_) (fun c14 => ?_)
          · skip
            have f13_ : v12 = 1 := by omega
            have f15 : ((h 90 7) + 1) < n := f13.2 (by omega)
            clear f13
            refine ov_blk (ls2 := [(0, ov_r 90), (1, ov_i (h 96 348)), (2, ov_i x2), (3, ov_i x3)]) (st2 := [ov_i x2]) (pc2 := 97) b_224_96_1 rfl rfl ?_
            refine ov_ifeq (tgt := 105) d_224_97 (by decide) (by omega) (fun c16 => ?_) (fun c16 => ?_)
            · skip
              refine ov_blk (ls2 := [(0, ov_r 90), (1, ov_i (h 96 348)), (2, ov_i x2), (3, ov_i x3)]) (st2 := [ov_r 90]) (pc2 := 106) b_224_105_1 rfl rfl ?_
              refine ov_getf (v := ov_i (h 90 8)) d_224_106 fl_Mo_180 (zb_90 I4) (zs_90 I4) rfl ?_
              have g17 := rg_90_8 I
              refine ov_ifle (tgt := 113) d_224_109 (by decide) (by omega) (fun c18 => ?_) (fun c18 => ?_)
              · skip
                refine ov_blk (ls2 := [(0, ov_r 90), (1, ov_i (h 96 348)), (2, ov_i x2), (3, ov_i x3)]) (st2 := [ov_r 90]) (pc2 := 114) b_224_113_1 rfl rfl ?_
                refine ov_getf (v := ov_r 99) d_224_114 fl_Mo_90 (zb_90 I4) (zs_90 I4) (congrArg ov_r (rg_90_14 I4)) ?_
                refine ov_blk (ls2 := [(0, ov_r 90), (1, ov_i (h 96 348)), (2, ov_i x2), (3, ov_i x3)]) (st2 := [ov_r 90, ov_i (h 96 348), ov_r 99]) (pc2 := 119) b_224_117_2 rfl rfl ?_
                refine ov_getf (v := ov_r 94) d_224_119 fl_Mo_30 (zb_90 I4) (zs_90 I4) (congrArg ov_r (rg_90_6 I4)) ?_
                refine ov_blk (ls2 := [(0, ov_r 90), (1, ov_i (h 96 348)), (2, ov_i x2), (3, ov_i x3)]) (st2 := [ov_r 90, ov_r 94, ov_i (h 96 348), ov_r 99]) (pc2 := 123) b_224_122_1 rfl rfl ?_
                refine ov_getf (v := ov_i ((h 90 7) + 1)) d_224_123 fl_Mo_177 (zb_90 I4) (zs_90 I4) rfl ?_
                refine ov_lald d_224_126 (zb_94 I4) (zs_94 I4) (by omega) ?_
                show ov_R u d ov_m224 127 [(0, ov_r 90), (1, ov_i (h 96 348)), (2, ov_i x2), (3, ov_i x3)] [ov_l (h 94 ((h 90 7) + 1)), ov_i (h 96 348), ov_r 99] z (ov_up h 90 7 ((h 90 7) + 1)) (P_Mo_readRule_90 F z h n)
                have g19 := ra_94 I ((h 90 7) + 1)
                refine ov_last d_224_127 (zb_99 I4) (zs_99 I4) (by omega) ?_
                have I20 := ua_99 (k := (h 96 348)) (x := (h 94 ((h 90 7) + 1))) I4
                refine ov_blk (ls2 := [(0, ov_r 90), (1, ov_i (h 96 348)), (2, ov_i x2), (3, ov_i x3)]) (st2 := [ov_r 90, ov_r 90]) (pc2 := 130) b_224_128_2 rfl rfl ?_
                refine ov_getf (v := ov_i ((h 90 7) + 1)) d_224_130 fl_Mo_177 (zb_90 I20) (zs_90 I20) rfl ?_
                refine ov_blk (ls2 := [(0, ov_r 90), (1, ov_i (h 96 348)), (2, ov_i x2), (3, ov_i x3)]) (st2 := [ov_i (((h 90 7) + 1) + 1), ov_r 90]) (pc2 := 135) b_224_133_2 rfl rfl ?_
                refine ov_putf (x := (((h 90 7) + 1) + 1)) d_224_135 fl_Mo_177 (zb_90 I20) (zs_90 I20) rfl nk_0 rfl ?_
                have I21 := up_90_7 (x := (((h 90 7) + 1) + 1)) I20 (by omega)
                refine ov_blk (ls2 := [(0, ov_r 90), (1, ov_i (h 96 348)), (2, ov_i x2), (3, ov_i x3)]) (st2 := [ov_r 90]) (pc2 := 139) b_224_138_1 rfl rfl ?_
                refine ov_getf (v := ov_r 96) d_224_139 fl_Mo_81 (zb_90 I21) (zs_90 I21) (congrArg ov_r (rg_90_10 I21)) ?_
                refine ov_blk (ls2 := [(0, ov_r 90), (1, ov_i (h 96 348)), (2, ov_i x2), (3, ov_i x3)]) (st2 := [ov_r 90, ov_i (620 + (h 96 348)), ov_r 96]) (pc2 := 148) b_224_142_4 rfl rfl ?_
                refine ov_getf (v := ov_i (h 90 13)) d_224_148 fl_Mo_208 (zb_90 I21) (zs_90 I21) rfl ?_
                have g22 := rg_90_13 I
                refine ov_iast d_224_151 (zb_96 I21) (zs_96 I21) (by omega) ?_
                have I23 := ua_96 (k := (620 + (h 96 348))) (x := (h 90 13)) I21 (by refine ⟨?_, ?_, ?_, ?_, ?_, ?_, ?_, ?_, ?_, ?_, ?_, ?_, ?_, ?_, ?_, ?_, ?_, ?_, ?_, ?_, ?_, ?_, ?_, ?_, ?_, ?_, ?_, ?_, ?_⟩ <;> omega)
                refine ov_blk (ls2 := [(0, ov_r 90), (1, ov_i (h 96 348)), (2, ov_i x2), (3, ov_i x3)]) (st2 := [ov_i 0, ov_r 90]) (pc2 := 154) b_224_152_2 rfl rfl ?_
                refine ov_cV (as := [ov_i 0]) (st := []) (d2 := d - 1) d_224_154 lk_Mo_243 rfl (Nat.le_of_ble_eq_true rfl) (c := 1) (zb_90 I23) (zs_90 I23) ⟨by decide, rfl⟩ (by omega) (c_Mo_all_90_all n 5 (d - 1) (by omega) U I23 0 (by omega) (by show 0 ≤ n ∧ n ≤ 1000 ∧ (h 92 (n)) = 0 ∧ (((h 90 7) + 1) + 1) ≤ n; omega) (by omega) (by show (h 90 13) ≤ (((h 90 7) + 1) + 1); omega)) ?_
                rintro _ z39 h40 ⟨rfl, I41, f24, e25, e26, e27, e28, e29, e30, e31, e32, e33, e34, e35, e36, y37, y38⟩
                have E42 : h40 92 = h 92 := e25
                have E43 : h40 93 = h 93 := e26
                have E44 : h40 94 = h 94 := e27
                have E45 : h40 95 = h 95 := e28
                have E46 : h40 100 = h 100 := e31
                have E47 : h40 103 = h 103 := e32
                have E48 : h40 105 = h 105 := e33
                have E49 : h40 106 = h 106 := e34
                have E50 : h40 109 = h 109 := e35
                have E51 : h40 114 = h 114 := e36
                show ov_R u d ov_m224 157 [(0, ov_r 90), (1, ov_i (h 96 348)), (2, ov_i x2), (3, ov_i x3)] [] z39 h40 (P_Mo_readRule_90 F z h n)
                have f52 : (h40 90 2) = (h 90 2) ∧ (h40 90 20) = (h 90 20) ∧ (h40 90 22) = (h 90 22) ∧ (h40 90 25) = (h 90 25) ∧ (h40 90 26) = (h 90 26) ∧ (h40 90 28) = (h 90 28) ∧ (h40 90 29) = (h 90 29) ∧ (h40 90 30) = (h 90 30) ∧ (h40 90 34) = (h 90 34) ∧ (((h 90 7) + 1) + 1) ≤ (h40 90 7) ∧ (h40 90 7) ≤ n ∧ (h 90 8) ≤ (h40 90 8) ∧ (h 90 13) ≤ (h40 90 13) ∧ (h40 90 13) - (h 90 13) ≤ (h40 90 7) - (((h 90 7) + 1) + 1) := f24
                clear f24
                have y37_ : ∀ j : Int, j < 1100 + (h 90 13) → (h40 97) j = (h 97) j ∧ (h40 98) j = (h 98) j := y37
                have y38_ : (h40 90 8) = 0 → ov_sg (h40 97) (h40 98) (h 90 13) (h40 90 13) := y38
                refine ov_blk (ls2 := [(0, ov_r 90), (1, ov_i (h 96 348)), (2, ov_i x2), (3, ov_i x3)]) (st2 := [ov_i 0, ov_i 0, ov_r 90]) (pc2 := 160) b_224_157_3 rfl rfl ?_
                refine ov_cV (as := [ov_i 0, ov_i 0]) (st := []) (d2 := d - 1) d_224_160 lk_Mo_246 rfl (Nat.le_of_ble_eq_true rfl) (c := 1) (zb_90 I41) (zs_90 I41) ⟨by decide, rfl⟩ (by omega) (c_Mo_emit_90 (d - 1) (by omega) U I41 0 0 (by omega) (by omega) (by omega) (by show (h40 90 13) ≤ 999; omega)) ?_
                rintro _ z68 h69 ⟨rfl, I70, f53, e54, e55, e56, e57, e58, e59, e60, e61, e62, e63, e64, e65, y66, y67⟩
                have E71 : h69 92 = h 92 := Eq.trans e54 E42
                have E72 : h69 93 = h 93 := Eq.trans e55 E43
                have E73 : h69 94 = h 94 := Eq.trans e56 E44
                have E74 : h69 95 = h 95 := Eq.trans e57 E45
                have E75 : h69 96 = h40 96 := e58
                have E76 : h69 99 = h40 99 := e59
                have E77 : h69 100 = h 100 := Eq.trans e60 E46
                have E78 : h69 103 = h 103 := Eq.trans e61 E47
                have E79 : h69 105 = h 105 := Eq.trans e62 E48
                have E80 : h69 106 = h 106 := Eq.trans e63 E49
                have E81 : h69 109 = h 109 := Eq.trans e64 E50
                have E82 : h69 114 = h 114 := Eq.trans e65 E51
                show ov_R u d ov_m224 163 [(0, ov_r 90), (1, ov_i (h 96 348)), (2, ov_i x2), (3, ov_i x3)] [] z68 h69 (P_Mo_readRule_90 F z h n)
                have f83 : (h69 90 2) = (h40 90 2) ∧ (h69 90 7) = (h40 90 7) ∧ (h69 90 8) = (h40 90 8) ∧ (h69 90 20) = (h40 90 20) ∧ (h69 90 22) = (h40 90 22) ∧ (h69 90 25) = (h40 90 25) ∧ (h69 90 26) = (h40 90 26) ∧ (h69 90 28) = (h40 90 28) ∧ (h69 90 29) = (h40 90 29) ∧ (h69 90 30) = (h40 90 30) ∧ (h69 90 34) = (h40 90 34) ∧ (h69 90 13) = (h40 90 13) + 1 := f53
                clear f53
                have y66_ : (h69 97) = ov_rs (h40 97) (1100 + (h40 90 13)) (0 : Int) := y66
                have y67_ : (h69 98) = ov_rs (h40 98) (1100 + (h40 90 13)) (0 : Int) := y67
                have q1 : (ov_up (ov_up (ov_up (ov_up h 90 7 ((h 90 7) + 1)) 99 (h 96 348) (h 94 ((h 90 7) + 1))) 90 7 (((h 90 7) + 1) + 1)) 96 (620 + (h 96 348)) (h 90 13)) 96 = ov_rs (h 96) (620 + (h 96 348)) (h 90 13) := by rw [ov_up_row]; rfl
                have q3 : h69 96 = ov_rs (h 96) (620 + (h 96 348)) (h 90 13) := by rw [e58, e29, q1]
                have q4 := t96_348 I
                have q5 : h69 96 348 = h 96 348 := by rw [q3, ov_rs_ne (by omega)]
                refine ov_blk (ls2 := [(0, ov_r 90), (1, ov_i (h 96 348)), (2, ov_i x2), (3, ov_i x3)]) (st2 := [ov_r 90]) (pc2 := 164) b_224_163_1 rfl rfl ?_
                refine ov_getf (v := ov_r 96) d_224_164 fl_Mo_81 (zb_90 I70) (zs_90 I70) (congrArg ov_r (rg_90_10 I70)) ?_
                refine ov_blk (ls2 := [(0, ov_r 90), (1, ov_i (h 96 348)), (2, ov_i x2), (3, ov_i x3)]) (st2 := [ov_i 348, ov_r 96, ov_i 348, ov_r 96]) (pc2 := 171) b_224_167_2 rfl rfl ?_
                refine ov_iald d_224_171 (zb_96 I70) (zs_96 I70) (by omega) ?_
                rw [show h69 96 = h40 96 from E75]
                have g84 := t96_348 I41
                refine ov_blk (ls2 := [(0, ov_r 90), (1, ov_i (h 96 348)), (2, ov_i x2), (3, ov_i x3)]) (st2 := [ov_i ((h40 96 348) + 1), ov_i 348, ov_r 96]) (pc2 := 174) b_224_172_2 rfl rfl ?_
                refine ov_iast d_224_174 (zb_96 I70) (zs_96 I70) (by omega) ?_
                have I85 := ua_96 (k := 348) (x := ((h40 96 348) + 1)) I70 (by refine ⟨?_, ?_, ?_, ?_, ?_, ?_, ?_, ?_, ?_, ?_, ?_, ?_, ?_, ?_, ?_, ?_, ?_, ?_, ?_, ?_, ?_, ?_, ?_, ?_, ?_, ?_, ?_, ?_, ?_⟩ <;> omega)
                have q2 : (ov_up h69 96 348 ((h40 96 348) + 1)) 96 = ov_rs (ov_rs (h 96) (620 + (h 96 348)) (h 90 13)) 348 ((h40 96 348) + 1) := by rw [ov_up_row, e58, e29, q1]
                have k1 : ∀ j : Int, j < 1100 + (h 90 13) → h40 97 j = h 97 j ∧ h40 98 j = h 98 j := fun j hj => y37_ j (by omega)
                have l340 : (ov_up h69 96 348 ((h40 96 348) + 1)) 96 340 = h 96 340 := by rw [q2, ov_rs_ne (by omega), ov_rs_ne (by omega)]
                have l341 : (ov_up h69 96 348 ((h40 96 348) + 1)) 96 341 = h 96 341 := by rw [q2, ov_rs_ne (by omega), ov_rs_ne (by omega)]
                have l342 : (ov_up h69 96 348 ((h40 96 348) + 1)) 96 342 = h 96 342 := by rw [q2, ov_rs_ne (by omega), ov_rs_ne (by omega)]
                have l349 : (ov_up h69 96 348 ((h40 96 348) + 1)) 96 349 = h 96 349 := by rw [q2, ov_rs_ne (by omega), ov_rs_ne (by omega)]
                have cf86 : h69 96 340 = h40 96 340 := congrFun E75 340
                have cf87 : h69 96 341 = h40 96 341 := congrFun E75 341
                have cf88 : h69 96 342 = h40 96 342 := congrFun E75 342
                have cf89 : h69 96 349 = h40 96 349 := congrFun E75 349
                exact ov_retv (st := []) d_224_175 rfl ⟨rfl, I85, (by show (h69 90 2) = (h 90 2) ∧ (h69 90 20) = (h 90 20) ∧ (h69 90 22) = (h 90 22) ∧ (h69 90 25) = (h 90 25) ∧ (h69 90 26) = (h 90 26) ∧ (h69 90 28) = (h 90 28) ∧ (h69 90 29) = (h 90 29) ∧ (h69 90 30) = (h 90 30) ∧ (h69 90 34) = (h 90 34) ∧ (h 90 7) ≤ (h69 90 7) ∧ (h69 90 7) ≤ n ∧ (h 90 13) ≤ (h69 90 13) ∧ (h69 90 13) - (h 90 13) ≤ (h69 90 7) - (h 90 7) ∧ (h69 96 340) = (h 96 340) ∧ (h69 96 341) = (h 96 341) ∧ ((h69 90 8) = 0 → 1 ≤ (h 96 342) → 1 ≤ (h69 96 342)) ∧ (1 ≤ (h 96 349) → 1 ≤ (h69 96 349)); omega), E71, E72, E73, E74, E77, E78, E79, E80, E81, E82, (by show ov_MK (h 96) (h 97) (h 98) ((ov_up h69 96 348 ((h40 96 348) + 1)) 96) (h69 97) (h69 98); rw [q2]; exact ⟨(ov_MK_1 (k := 348) (ov_MK_1 (ov_MK_refl (h 96) (h 97) (h 98)) (by omega)) (by decide)).1, fun j hj => (ov_kpe k1 y66_ y67_ (by omega) j (by omega)).1, fun j hj => (ov_kpe k1 y66_ y67_ (by omega) j (by omega)).2⟩), (fun w => by show ov_WS ((ov_up h69 96 348 ((h40 96 348) + 1)) 96); rw [q2]; exact ov_WS_o (ov_WS_o w (by omega)) (by decide)), (fun e w => by have e0 : (h69 90 8) = 0 := e; have s2 := y38_ (by omega); rw [show (h 90 13) = h 90 13 by omega] at s2; show ov_CS ((ov_up h69 96 348 ((h40 96 348) + 1)) 96) (h69 97) (h69 98) (h69 90 13); rw [show (h69 90 13) = h40 90 13 + 1 by omega, q2]; exact ov_CS_r w (by omega) (by omega) (by rw [ov_rs_ne (by omega), show 620 + h 96 348 = 620 + (h 96 348) by omega, ov_rs_eq]) (fun r a b => by rw [ov_rs_ne (by omega), ov_rs_ne (by omega)]) (by rw [ov_rs_eq]; omega) k1 s2 y66_ y67_)⟩
              · skip
                have R90 : ov_RD (h 96) (h 97) (h 98) (h 90 13) ((ov_up h 90 7 ((h 90 7) + 1)) 96) ((ov_up h 90 7 ((h 90 7) + 1)) 97) ((ov_up h 90 7 ((h 90 7) + 1)) 98) (h 90 13) := by exact ov_RD_refl _ _ _ _
                exact ov_retv (st := []) d_224_112 rfl ⟨rfl, I4, ⟨rfl, rfl, rfl, rfl, rfl, rfl, rfl, rfl, rfl, (by show (h 90 7) ≤ ((h 90 7) + 1) ∧ ((h 90 7) + 1) ≤ n ∧ (h 90 13) ≤ (h 90 13) ∧ (h 90 13) - (h 90 13) ≤ ((h 90 7) + 1) - (h 90 7) ∧ (h 96 340) = (h 96 340) ∧ (h 96 341) = (h 96 341) ∧ ((h 90 8) = 0 → 1 ≤ (h 96 342) → 1 ≤ (h 96 342)) ∧ (1 ≤ (h 96 349) → 1 ≤ (h 96 349)); omega)⟩, rfl, rfl, rfl, rfl, rfl, rfl, rfl, rfl, rfl, rfl, R90.1, R90.2.1, (fun _ w => by show ov_CS ((ov_up h 90 7 ((h 90 7) + 1)) 96) ((ov_up h 90 7 ((h 90 7) + 1)) 97) ((ov_up h 90 7 ((h 90 7) + 1)) 98) (h 90 13); rw [show (h 90 13) = h 90 13 by omega]; exact R90.2.2 w)⟩
            · skip
              refine ov_blk (ls2 := [(0, ov_r 90), (1, ov_i (h 96 348)), (2, ov_i x2), (3, ov_i x3)]) (st2 := [ov_i 3, ov_r 90]) (pc2 := 102) b_224_100_2 rfl rfl ?_
              refine ov_cV (as := [ov_i 3]) (st := []) (d2 := d - 1) d_224_102 lk_Mo_186 rfl (Nat.le_of_ble_eq_true rfl) (c := 1) (zb_90 I4) (zs_90 I4) ⟨by decide, rfl⟩ (by omega) (c_Mo_wrong_90 (d - 1) (by omega) U I4 3 (by omega) (by omega)) ?_
              rintro _ z106 h107 ⟨rfl, I108, f91, e92, e93, e94, e95, e96, e97, e98, e99, e100, e101, e102, e103, e104, e105⟩
              have E109 : h107 92 = h 92 := e92
              have E110 : h107 93 = h 93 := e93
              have E111 : h107 94 = h 94 := e94
              have E112 : h107 95 = h 95 := e95
              have E113 : h107 96 = h 96 := e96
              have E114 : h107 97 = h 97 := e97
              have E115 : h107 98 = h 98 := e98
              have E116 : h107 99 = h 99 := e99
              have E117 : h107 100 = h 100 := e100
              have E118 : h107 103 = h 103 := e101
              have E119 : h107 105 = h 105 := e102
              have E120 : h107 106 = h 106 := e103
              have E121 : h107 109 = h 109 := e104
              have E122 : h107 114 = h 114 := e105
              show ov_R u d ov_m224 105 [(0, ov_r 90), (1, ov_i (h 96 348)), (2, ov_i x2), (3, ov_i x3)] [] z106 h107 (P_Mo_readRule_90 F z h n)
              have f123 : (h107 90 2) = (h 90 2) ∧ (h107 90 7) = ((h 90 7) + 1) ∧ (h107 90 13) = (h 90 13) ∧ (h107 90 20) = (h 90 20) ∧ (h107 90 22) = (h 90 22) ∧ (h107 90 25) = (h 90 25) ∧ (h107 90 26) = (h 90 26) ∧ (h107 90 28) = (h 90 28) ∧ (h107 90 29) = (h 90 29) ∧ (h107 90 30) = (h 90 30) ∧ (h107 90 34) = (h 90 34) ∧ 0 < (h107 90 8) ∧ (h 90 8) ≤ (h107 90 8) := f91
              clear f91
              refine ov_blk (ls2 := [(0, ov_r 90), (1, ov_i (h 96 348)), (2, ov_i x2), (3, ov_i x3)]) (st2 := [ov_r 90]) (pc2 := 106) b_224_105_1 rfl rfl ?_
              refine ov_getf (v := ov_i (h107 90 8)) d_224_106 fl_Mo_180 (zb_90 I108) (zs_90 I108) rfl ?_
              have g124 := rg_90_8 I108
              refine ov_ifle (tgt := 113) d_224_109 (by decide) (by omega) (fun c125 => ?_) (fun c125 => ?_)
              · omega
              · skip
                have cf126 : h107 96 340 = h 96 340 := congrFun E113 340
                have cf127 : h107 96 341 = h 96 341 := congrFun E113 341
                have cf128 : h107 96 342 = h 96 342 := congrFun E113 342
                have cf129 : h107 96 349 = h 96 349 := congrFun E113 349
                have R130 : ov_RD (h 96) (h 97) (h 98) (h 90 13) (h107 96) (h107 97) (h107 98) (h 90 13) := by rw [show h107 96 = h 96 from E113, show h107 97 = h 97 from E114, show h107 98 = h 98 from E115]; exact ov_RD_refl _ _ _ _
                exact ov_retv (st := []) d_224_112 rfl ⟨rfl, I108, (by show (h107 90 2) = (h 90 2) ∧ (h107 90 20) = (h 90 20) ∧ (h107 90 22) = (h 90 22) ∧ (h107 90 25) = (h 90 25) ∧ (h107 90 26) = (h 90 26) ∧ (h107 90 28) = (h 90 28) ∧ (h107 90 29) = (h 90 29) ∧ (h107 90 30) = (h 90 30) ∧ (h107 90 34) = (h 90 34) ∧ (h 90 7) ≤ (h107 90 7) ∧ (h107 90 7) ≤ n ∧ (h 90 13) ≤ (h107 90 13) ∧ (h107 90 13) - (h 90 13) ≤ (h107 90 7) - (h 90 7) ∧ (h107 96 340) = (h 96 340) ∧ (h107 96 341) = (h 96 341) ∧ ((h107 90 8) = 0 → 1 ≤ (h 96 342) → 1 ≤ (h107 96 342)) ∧ (1 ≤ (h 96 349) → 1 ≤ (h107 96 349)); omega), E109, E110, E111, E112, E117, E118, E119, E120, E121, E122, R130.1, R130.2.1, (fun _ w => by show ov_CS (h107 96) (h107 97) (h107 98) (h107 90 13); rw [show (h107 90 13) = h 90 13 by omega]; exact R130.2.2 w)⟩
          · skip
            have f13_ : v12 = 0 := by omega
            clear f13
            refine ov_blk (ls2 := [(0, ov_r 90), (1, ov_i (h 96 348)), (2, ov_i x2), (3, ov_i x3)]) (st2 := [ov_i 1, ov_r 90]) (pc2 := 90) b_224_88_2 rfl rfl ?_
            refine ov_cV (as := [ov_i 1]) (st := []) (d2 := d - 1) d_224_90 lk_Mo_186 rfl (Nat.le_of_ble_eq_true rfl) (c := 1) (zb_90 I4) (zs_90 I4) ⟨by decide, rfl⟩ (by omega) (c_Mo_wrong_90 (d - 1) (by omega) U I4 1 (by omega) (by omega)) ?_
            rintro _ z146 h147 ⟨rfl, I148, f131, e132, e133, e134, e135, e136, e137, e138, e139, e140, e141, e142, e143, e144, e145⟩
            have E149 : h147 92 = h 92 := e132
            have E150 : h147 93 = h 93 := e133
            have E151 : h147 94 = h 94 := e134
            have E152 : h147 95 = h 95 := e135
            have E153 : h147 96 = h 96 := e136
            have E154 : h147 97 = h 97 := e137
            have E155 : h147 98 = h 98 := e138
            have E156 : h147 99 = h 99 := e139
            have E157 : h147 100 = h 100 := e140
            have E158 : h147 103 = h 103 := e141
            have E159 : h147 105 = h 105 := e142
            have E160 : h147 106 = h 106 := e143
            have E161 : h147 109 = h 109 := e144
            have E162 : h147 114 = h 114 := e145
            show ov_R u d ov_m224 93 [(0, ov_r 90), (1, ov_i (h 96 348)), (2, ov_i x2), (3, ov_i x3)] [] z146 h147 (P_Mo_readRule_90 F z h n)
            have f163 : (h147 90 2) = (h 90 2) ∧ (h147 90 7) = ((h 90 7) + 1) ∧ (h147 90 13) = (h 90 13) ∧ (h147 90 20) = (h 90 20) ∧ (h147 90 22) = (h 90 22) ∧ (h147 90 25) = (h 90 25) ∧ (h147 90 26) = (h 90 26) ∧ (h147 90 28) = (h 90 28) ∧ (h147 90 29) = (h 90 29) ∧ (h147 90 30) = (h 90 30) ∧ (h147 90 34) = (h 90 34) ∧ 0 < (h147 90 8) ∧ (h 90 8) ≤ (h147 90 8) := f131
            clear f131
            refine ov_goto (tgt := 105) d_224_93 (by decide) ?_
            refine ov_blk (ls2 := [(0, ov_r 90), (1, ov_i (h 96 348)), (2, ov_i x2), (3, ov_i x3)]) (st2 := [ov_r 90]) (pc2 := 106) b_224_105_1 rfl rfl ?_
            refine ov_getf (v := ov_i (h147 90 8)) d_224_106 fl_Mo_180 (zb_90 I148) (zs_90 I148) rfl ?_
            have g164 := rg_90_8 I148
            refine ov_ifle (tgt := 113) d_224_109 (by decide) (by omega) (fun c165 => ?_) (fun c165 => ?_)
            · omega
            · skip
              have cf166 : h147 96 340 = h 96 340 := congrFun E153 340
              have cf167 : h147 96 341 = h 96 341 := congrFun E153 341
              have cf168 : h147 96 342 = h 96 342 := congrFun E153 342
              have cf169 : h147 96 349 = h 96 349 := congrFun E153 349
              have R170 : ov_RD (h 96) (h 97) (h 98) (h 90 13) (h147 96) (h147 97) (h147 98) (h 90 13) := by rw [show h147 96 = h 96 from E153, show h147 97 = h 97 from E154, show h147 98 = h 98 from E155]; exact ov_RD_refl _ _ _ _
              exact ov_retv (st := []) d_224_112 rfl ⟨rfl, I148, (by show (h147 90 2) = (h 90 2) ∧ (h147 90 20) = (h 90 20) ∧ (h147 90 22) = (h 90 22) ∧ (h147 90 25) = (h 90 25) ∧ (h147 90 26) = (h 90 26) ∧ (h147 90 28) = (h 90 28) ∧ (h147 90 29) = (h 90 29) ∧ (h147 90 30) = (h 90 30) ∧ (h147 90 34) = (h 90 34) ∧ (h 90 7) ≤ (h147 90 7) ∧ (h147 90 7) ≤ n ∧ (h 90 13) ≤ (h147 90 13) ∧ (h147 90 13) - (h 90 13) ≤ (h147 90 7) - (h 90 7) ∧ (h147 96 340) = (h 96 340) ∧ (h147 96 341) = (h 96 341) ∧ ((h147 90 8) = 0 → 1 ≤ (h 96 342) → 1 ≤ (h147 96 342)) ∧ (1 ≤ (h 96 349) → 1 ≤ (h147 96 349)); omega), E149, E150, E151, E152, E157, E158, E159, E160, E161, E162, R170.1, R170.2.1, (fun _ w => by show ov_CS (h147 96) (h147 97) (h147 98) (h147 90 13); rw [show (h147 90 13) = h 90 13 by omega]; exact R170.2.2 w)⟩
        · skip
          refine ov_blk (ls2 := [(0, ov_r 90), (1, ov_i (h 96 348)), (2, ov_i x2), (3, ov_i x3)]) (st2 := [ov_r 90]) (pc2 := 40) b_224_39_1 rfl rfl ?_
          refine ov_getf (v := ov_i (h 90 8)) d_224_40 fl_Mo_180 (zb_90 I4) (zs_90 I4) rfl ?_
          have g171 := rg_90_8 I
          refine ov_ifne (tgt := 81) d_224_43 (by decide) (by omega) (fun c172 => ?_) (fun c172 => ?_)
          · skip
            refine ov_blk (ls2 := [(0, ov_r 90), (1, ov_i (h 96 348)), (2, ov_i x2), (3, ov_i x3)]) (st2 := [ov_r 90]) (pc2 := 82) b_224_81_1 rfl rfl ?_
            refine ov_cV (as := []) (st := []) (d2 := d - 1) d_224_82 lk_Mo_239 rfl (Nat.le_of_ble_eq_true rfl) (c := 1) (zb_90 I4) (zs_90 I4) ⟨by decide, rfl⟩ (by omega) (c_Mo_isName_90 n (d - 1) (by omega) U I4 (by show 0 ≤ n ∧ n ≤ 1000 ∧ (h 92 (n)) = 0 ∧ ((h 90 7) + 1) ≤ n; omega)) ?_
            rintro _ _ _ ⟨v174, rfl, rfl, rfl, f173⟩
            show ov_R u d ov_m224 85 [(0, ov_r 90), (1, ov_i (h 96 348)), (2, ov_i x2), (3, ov_i x3)] [ov_i v174] z (ov_up h 90 7 ((h 90 7) + 1)) (P_Mo_readRule_90 F z h n)
            have f175 : (v174 = 0 ∨ v174 = 1) ∧ (v174 = 1 → ((h 90 7) + 1) < n) := f173
            clear f173
            refine ov_ifne (tgt := 96) d_224_85 (by decide) (by omega) (fun c176 => ?_) (fun c176 => ?_)
            · skip
              have f175_ : v174 = 1 := by omega
              have f177 : ((h 90 7) + 1) < n := f175.2 (by omega)
              clear f175
              refine ov_blk (ls2 := [(0, ov_r 90), (1, ov_i (h 96 348)), (2, ov_i x2), (3, ov_i x3)]) (st2 := [ov_i x2]) (pc2 := 97) b_224_96_1 rfl rfl ?_
              refine ov_ifeq (tgt := 105) d_224_97 (by decide) (by omega) (fun c178 => ?_) (fun c178 => ?_)
              · skip
                refine ov_blk (ls2 := [(0, ov_r 90), (1, ov_i (h 96 348)), (2, ov_i x2), (3, ov_i x3)]) (st2 := [ov_r 90]) (pc2 := 106) b_224_105_1 rfl rfl ?_
                refine ov_getf (v := ov_i (h 90 8)) d_224_106 fl_Mo_180 (zb_90 I4) (zs_90 I4) rfl ?_
                refine ov_ifle (tgt := 113) d_224_109 (by decide) (by omega) (fun c180 => ?_) (fun c180 => ?_)
                · omega
                · skip
                  have R181 : ov_RD (h 96) (h 97) (h 98) (h 90 13) ((ov_up h 90 7 ((h 90 7) + 1)) 96) ((ov_up h 90 7 ((h 90 7) + 1)) 97) ((ov_up h 90 7 ((h 90 7) + 1)) 98) (h 90 13) := by exact ov_RD_refl _ _ _ _
                  exact ov_retv (st := []) d_224_112 rfl ⟨rfl, I4, ⟨rfl, rfl, rfl, rfl, rfl, rfl, rfl, rfl, rfl, (by show (h 90 7) ≤ ((h 90 7) + 1) ∧ ((h 90 7) + 1) ≤ n ∧ (h 90 13) ≤ (h 90 13) ∧ (h 90 13) - (h 90 13) ≤ ((h 90 7) + 1) - (h 90 7) ∧ (h 96 340) = (h 96 340) ∧ (h 96 341) = (h 96 341) ∧ ((h 90 8) = 0 → 1 ≤ (h 96 342) → 1 ≤ (h 96 342)) ∧ (1 ≤ (h 96 349) → 1 ≤ (h 96 349)); omega)⟩, rfl, rfl, rfl, rfl, rfl, rfl, rfl, rfl, rfl, rfl, R181.1, R181.2.1, (fun _ w => by show ov_CS ((ov_up h 90 7 ((h 90 7) + 1)) 96) ((ov_up h 90 7 ((h 90 7) + 1)) 97) ((ov_up h 90 7 ((h 90 7) + 1)) 98) (h 90 13); rw [show (h 90 13) = h 90 13 by omega]; exact R181.2.2 w)⟩
              · skip
                refine ov_blk (ls2 := [(0, ov_r 90), (1, ov_i (h 96 348)), (2, ov_i x2), (3, ov_i x3)]) (st2 := [ov_i 3, ov_r 90]) (pc2 := 102) b_224_100_2 rfl rfl ?_
                refine ov_cV (as := [ov_i 3]) (st := []) (d2 := d - 1) d_224_102 lk_Mo_186 rfl (Nat.le_of_ble_eq_true rfl) (c := 1) (zb_90 I4) (zs_90 I4) ⟨by decide, rfl⟩ (by omega) (c_Mo_wrong_90 (d - 1) (by omega) U I4 3 (by omega) (by omega)) ?_
                rintro _ z197 h198 ⟨rfl, I199, f182, e183, e184, e185, e186, e187, e188, e189, e190, e191, e192, e193, e194, e195, e196⟩
                have E200 : h198 92 = h 92 := e183
                have E201 : h198 93 = h 93 := e184
                have E202 : h198 94 = h 94 := e185
                have E203 : h198 95 = h 95 := e186
                have E204 : h198 96 = h 96 := e187
                have E205 : h198 97 = h 97 := e188
                have E206 : h198 98 = h 98 := e189
                have E207 : h198 99 = h 99 := e190
                have E208 : h198 100 = h 100 := e191
                have E209 : h198 103 = h 103 := e192
                have E210 : h198 105 = h 105 := e193
                have E211 : h198 106 = h 106 := e194
                have E212 : h198 109 = h 109 := e195
                have E213 : h198 114 = h 114 := e196
                show ov_R u d ov_m224 105 [(0, ov_r 90), (1, ov_i (h 96 348)), (2, ov_i x2), (3, ov_i x3)] [] z197 h198 (P_Mo_readRule_90 F z h n)
                have f214 : (h198 90 2) = (h 90 2) ∧ (h198 90 7) = ((h 90 7) + 1) ∧ (h198 90 13) = (h 90 13) ∧ (h198 90 20) = (h 90 20) ∧ (h198 90 22) = (h 90 22) ∧ (h198 90 25) = (h 90 25) ∧ (h198 90 26) = (h 90 26) ∧ (h198 90 28) = (h 90 28) ∧ (h198 90 29) = (h 90 29) ∧ (h198 90 30) = (h 90 30) ∧ (h198 90 34) = (h 90 34) ∧ 0 < (h198 90 8) ∧ (h 90 8) ≤ (h198 90 8) := f182
                clear f182
                refine ov_blk (ls2 := [(0, ov_r 90), (1, ov_i (h 96 348)), (2, ov_i x2), (3, ov_i x3)]) (st2 := [ov_r 90]) (pc2 := 106) b_224_105_1 rfl rfl ?_
                refine ov_getf (v := ov_i (h198 90 8)) d_224_106 fl_Mo_180 (zb_90 I199) (zs_90 I199) rfl ?_
                have g215 := rg_90_8 I199
                refine ov_ifle (tgt := 113) d_224_109 (by decide) (by omega) (fun c216 => ?_) (fun c216 => ?_)
                · omega
                · skip
                  have cf217 : h198 96 340 = h 96 340 := congrFun E204 340
                  have cf218 : h198 96 341 = h 96 341 := congrFun E204 341
                  have cf219 : h198 96 342 = h 96 342 := congrFun E204 342
                  have cf220 : h198 96 349 = h 96 349 := congrFun E204 349
                  have R221 : ov_RD (h 96) (h 97) (h 98) (h 90 13) (h198 96) (h198 97) (h198 98) (h 90 13) := by rw [show h198 96 = h 96 from E204, show h198 97 = h 97 from E205, show h198 98 = h 98 from E206]; exact ov_RD_refl _ _ _ _
                  exact ov_retv (st := []) d_224_112 rfl ⟨rfl, I199, (by show (h198 90 2) = (h 90 2) ∧ (h198 90 20) = (h 90 20) ∧ (h198 90 22) = (h 90 22) ∧ (h198 90 25) = (h 90 25) ∧ (h198 90 26) = (h 90 26) ∧ (h198 90 28) = (h 90 28) ∧ (h198 90 29) = (h 90 29) ∧ (h198 90 30) = (h 90 30) ∧ (h198 90 34) = (h 90 34) ∧ (h 90 7) ≤ (h198 90 7) ∧ (h198 90 7) ≤ n ∧ (h 90 13) ≤ (h198 90 13) ∧ (h198 90 13) - (h 90 13) ≤ (h198 90 7) - (h 90 7) ∧ (h198 96 340) = (h 96 340) ∧ (h198 96 341) = (h 96 341) ∧ ((h198 90 8) = 0 → 1 ≤ (h 96 342) → 1 ≤ (h198 96 342)) ∧ (1 ≤ (h 96 349) → 1 ≤ (h198 96 349)); omega), E200, E201, E202, E203, E208, E209, E210, E211, E212, E213, R221.1, R221.2.1, (fun _ w => by show ov_CS (h198 96) (h198 97) (h198 98) (h198 90 13); rw [show (h198 90 13) = h 90 13 by omega]; exact R221.2.2 w)⟩
            · skip
              have f175_ : v174 = 0 := by omega
              clear f175
              refine ov_blk (ls2 := [(0, ov_r 90), (1, ov_i (h 96 348)), (2, ov_i x2), (3, ov_i x3)]) (st2 := [ov_i 1, ov_r 90]) (pc2 := 90) b_224_88_2 rfl rfl ?_
              refine ov_cV (as := [ov_i 1]) (st := []) (d2 := d - 1) d_224_90 lk_Mo_186 rfl (Nat.le_of_ble_eq_true rfl) (c := 1) (zb_90 I4) (zs_90 I4) ⟨by decide, rfl⟩ (by omega) (c_Mo_wrong_90 (d - 1) (by omega) U I4 1 (by omega) (by omega)) ?_
              rintro _ z237 h238 ⟨rfl, I239, f222, e223, e224, e225, e226, e227, e228, e229, e230, e231, e232, e233, e234, e235, e236⟩
              have E240 : h238 92 = h 92 := e223
              have E241 : h238 93 = h 93 := e224
              have E242 : h238 94 = h 94 := e225
              have E243 : h238 95 = h 95 := e226
              have E244 : h238 96 = h 96 := e227
              have E245 : h238 97 = h 97 := e228
              have E246 : h238 98 = h 98 := e229
              have E247 : h238 99 = h 99 := e230
              have E248 : h238 100 = h 100 := e231
              have E249 : h238 103 = h 103 := e232
              have E250 : h238 105 = h 105 := e233
              have E251 : h238 106 = h 106 := e234
              have E252 : h238 109 = h 109 := e235
              have E253 : h238 114 = h 114 := e236
              show ov_R u d ov_m224 93 [(0, ov_r 90), (1, ov_i (h 96 348)), (2, ov_i x2), (3, ov_i x3)] [] z237 h238 (P_Mo_readRule_90 F z h n)
              have f254 : (h238 90 2) = (h 90 2) ∧ (h238 90 7) = ((h 90 7) + 1) ∧ (h238 90 13) = (h 90 13) ∧ (h238 90 20) = (h 90 20) ∧ (h238 90 22) = (h 90 22) ∧ (h238 90 25) = (h 90 25) ∧ (h238 90 26) = (h 90 26) ∧ (h238 90 28) = (h 90 28) ∧ (h238 90 29) = (h 90 29) ∧ (h238 90 30) = (h 90 30) ∧ (h238 90 34) = (h 90 34) ∧ 0 < (h238 90 8) ∧ (h 90 8) ≤ (h238 90 8) := f222
              clear f222
              refine ov_goto (tgt := 105) d_224_93 (by decide) ?_
              refine ov_blk (ls2 := [(0, ov_r 90), (1, ov_i (h 96 348)), (2, ov_i x2), (3, ov_i x3)]) (st2 := [ov_r 90]) (pc2 := 106) b_224_105_1 rfl rfl ?_
              refine ov_getf (v := ov_i (h238 90 8)) d_224_106 fl_Mo_180 (zb_90 I239) (zs_90 I239) rfl ?_
              have g255 := rg_90_8 I239
              refine ov_ifle (tgt := 113) d_224_109 (by decide) (by omega) (fun c256 => ?_) (fun c256 => ?_)
              · omega
              · skip
                have cf257 : h238 96 340 = h 96 340 := congrFun E244 340
                have cf258 : h238 96 341 = h 96 341 := congrFun E244 341
                have cf259 : h238 96 342 = h 96 342 := congrFun E244 342
                have cf260 : h238 96 349 = h 96 349 := congrFun E244 349
                have R261 : ov_RD (h 96) (h 97) (h 98) (h 90 13) (h238 96) (h238 97) (h238 98) (h 90 13) := by rw [show h238 96 = h 96 from E244, show h238 97 = h 97 from E245, show h238 98 = h 98 from E246]; exact ov_RD_refl _ _ _ _
                exact ov_retv (st := []) d_224_112 rfl ⟨rfl, I239, (by show (h238 90 2) = (h 90 2) ∧ (h238 90 20) = (h 90 20) ∧ (h238 90 22) = (h 90 22) ∧ (h238 90 25) = (h 90 25) ∧ (h238 90 26) = (h 90 26) ∧ (h238 90 28) = (h 90 28) ∧ (h238 90 29) = (h 90 29) ∧ (h238 90 30) = (h 90 30) ∧ (h238 90 34) = (h 90 34) ∧ (h 90 7) ≤ (h238 90 7) ∧ (h238 90 7) ≤ n ∧ (h 90 13) ≤ (h238 90 13) ∧ (h238 90 13) - (h 90 13) ≤ (h238 90 7) - (h 90 7) ∧ (h238 96 340) = (h 96 340) ∧ (h238 96 341) = (h 96 341) ∧ ((h238 90 8) = 0 → 1 ≤ (h 96 342) → 1 ≤ (h238 96 342)) ∧ (1 ≤ (h 96 349) → 1 ≤ (h238 96 349)); omega), E240, E241, E242, E243, E248, E249, E250, E251, E252, E253, R261.1, R261.2.1, (fun _ w => by show ov_CS (h238 96) (h238 97) (h238 98) (h238 90 13); rw [show (h238 90 13) = h 90 13 by omega]; exact R261.2.2 w)⟩
          · skip
            refine ov_blk (ls2 := [(0, ov_r 90), (1, ov_i (h 96 348)), (2, ov_i x2), (3, ov_i x3)]) (st2 := [ov_i x2]) (pc2 := 47) b_224_46_1 rfl rfl ?_
            refine ov_ifne (tgt := 69) d_224_47 (by decide) (by omega) (fun c262 => ?_) (fun c262 => ?_)
            · skip
              refine ov_blk (ls2 := [(0, ov_r 90), (1, ov_i (h 96 348)), (2, ov_i x2), (3, ov_i x3)]) (st2 := [ov_i 1]) (pc2 := 70) b_224_69_1 rfl rfl ?_
              refine ov_goto (tgt := 74) d_224_70 (by decide) ?_
              refine ov_blk (ls2 := [(0, ov_r 90), (1, ov_i (h 96 348)), (2, ov_i 1), (3, ov_i (x3 + 1))]) (st2 := []) (pc2 := 78) b_224_74_2 rfl rfl ?_
              refine ov_goto (tgt := 34) d_224_78 (by decide) ?_
              exact ih6 1 (x3 + 1) (by show (1 = 0 ∨ 1 = 1) ∧ 0 ≤ (x3 + 1) ∧ (x3 + 1) ≤ 4; omega) (by omega)
            · skip
              refine ov_blk (ls2 := [(0, ov_r 90), (1, ov_i (h 96 348)), (2, ov_i x2), (3, ov_i x3)]) (st2 := [ov_r 90]) (pc2 := 51) b_224_50_1 rfl rfl ?_
              refine ov_getf (v := ov_r 99) d_224_51 fl_Mo_90 (zb_90 I4) (zs_90 I4) (congrArg ov_r (rg_90_14 I4)) ?_
              refine ov_blk (ls2 := [(0, ov_r 90), (1, ov_i (h 96 348)), (2, ov_i x2), (3, ov_i x3)]) (st2 := [ov_i x3, ov_r 99]) (pc2 := 55) b_224_54_1 rfl rfl ?_
              refine ov_lald d_224_55 (zb_99 I4) (zs_99 I4) (by omega) ?_
              show ov_R u d ov_m224 56 [(0, ov_r 90), (1, ov_i (h 96 348)), (2, ov_i x2), (3, ov_i x3)] [ov_l (h 99 x3)] z (ov_up h 90 7 ((h 90 7) + 1)) (P_Mo_readRule_90 F z h n)
              refine ov_blk (ls2 := [(0, ov_r 90), (1, ov_i (h 96 348)), (2, ov_i x2), (3, ov_i x3)]) (st2 := [ov_r 90, ov_l (h 99 x3)]) (pc2 := 57) b_224_56_1 rfl rfl ?_
              refine ov_getf (v := ov_r 94) d_224_57 fl_Mo_30 (zb_90 I4) (zs_90 I4) (congrArg ov_r (rg_90_6 I4)) ?_
              refine ov_blk (ls2 := [(0, ov_r 90), (1, ov_i (h 96 348)), (2, ov_i x2), (3, ov_i x3)]) (st2 := [ov_r 90, ov_r 94, ov_l (h 99 x3)]) (pc2 := 61) b_224_60_1 rfl rfl ?_
              refine ov_getf (v := ov_i ((h 90 7) + 1)) d_224_61 fl_Mo_177 (zb_90 I4) (zs_90 I4) rfl ?_
              refine ov_lald d_224_64 (zb_94 I4) (zs_94 I4) (by omega) ?_
              show ov_R u d ov_m224 65 [(0, ov_r 90), (1, ov_i (h 96 348)), (2, ov_i x2), (3, ov_i x3)] [ov_l (h 94 ((h 90 7) + 1)), ov_l (h 99 x3)] z (ov_up h 90 7 ((h 90 7) + 1)) (P_Mo_readRule_90 F z h n)
              have g263 := ra_94 I ((h 90 7) + 1)
              refine ov_blk (ls2 := [(0, ov_r 90), (1, ov_i (h 96 348)), (2, ov_i x2), (3, ov_i x3)]) (st2 := [ov_i (ov_lcmp (h 99 x3) (h 94 ((h 90 7) + 1)))]) (pc2 := 66) b_224_65_1 rfl rfl ?_
              have g264 := ov_lcg (h 99 x3) (h 94 ((h 90 7) + 1))
              refine ov_ifne (tgt := 73) d_224_66 (by decide) (by omega) (fun c265 => ?_) (fun c265 => ?_)
              · skip
                refine ov_blk (ls2 := [(0, ov_r 90), (1, ov_i (h 96 348)), (2, ov_i 0), (3, ov_i (x3 + 1))]) (st2 := []) (pc2 := 78) b_224_73_3 rfl rfl ?_
                refine ov_goto (tgt := 34) d_224_78 (by decide) ?_
                exact ih6 0 (x3 + 1) (by show (0 = 0 ∨ 0 = 1) ∧ 0 ≤ (x3 + 1) ∧ (x3 + 1) ≤ 4; omega) (by omega)
              · skip
                refine ov_blk (ls2 := [(0, ov_r 90), (1, ov_i (h 96 348)), (2, ov_i x2), (3, ov_i x3)]) (st2 := [ov_i 1]) (pc2 := 70) b_224_69_1 rfl rfl ?_
                refine ov_goto (tgt := 74) d_224_70 (by decide) ?_
                refine ov_blk (ls2 := [(0, ov_r 90), (1, ov_i (h 96 348)), (2, ov_i 1), (3, ov_i (x3 + 1))]) (st2 := []) (pc2 := 78) b_224_74_2 rfl rfl ?_
                refine ov_goto (tgt := 34) d_224_78 (by decide) ?_
                exact ih6 1 (x3 + 1) (by show (1 = 0 ∨ 1 = 1) ∧ 0 ≤ (x3 + 1) ∧ (x3 + 1) ≤ 4; omega) (by omega)
    exact L8 5 0 0 (by show (0 = 0 ∨ 0 = 1) ∧ 0 ≤ 0 ∧ 0 ≤ 4; omega) (by omega)
  · skip
    refine ov_blk (ls2 := [(0, ov_r 90), (1, ov_i (h 96 348))]) (st2 := [ov_i 5, ov_r 90]) (pc2 := 16) b_224_14_2 rfl rfl ?_
    refine ov_cV (as := [ov_i 5]) (st := []) (d2 := d - 1) d_224_16 lk_Mo_186 rfl (Nat.le_of_ble_eq_true rfl) (c := 1) (zb_90 I) (zs_90 I) ⟨by decide, rfl⟩ (by omega) (c_Mo_wrong_90 (d - 1) (by omega) U I 5 (by omega) (by omega)) ?_
    rintro _ z281 h282 ⟨rfl, I283, f266, e267, e268, e269, e270, e271, e272, e273, e274, e275, e276, e277, e278, e279, e280⟩
    have E284 : h282 92 = h 92 := e267
    have E285 : h282 93 = h 93 := e268
    have E286 : h282 94 = h 94 := e269
    have E287 : h282 95 = h 95 := e270
    have E288 : h282 96 = h 96 := e271
    have E289 : h282 97 = h 97 := e272
    have E290 : h282 98 = h 98 := e273
    have E291 : h282 99 = h 99 := e274
    have E292 : h282 100 = h 100 := e275
    have E293 : h282 103 = h 103 := e276
    have E294 : h282 105 = h 105 := e277
    have E295 : h282 106 = h 106 := e278
    have E296 : h282 109 = h 109 := e279
    have E297 : h282 114 = h 114 := e280
    show ov_R u d ov_m224 19 [(0, ov_r 90), (1, ov_i (h 96 348))] [] z281 h282 (P_Mo_readRule_90 F z h n)
    have f298 : (h282 90 2) = (h 90 2) ∧ (h282 90 7) = (h 90 7) ∧ (h282 90 13) = (h 90 13) ∧ (h282 90 20) = (h 90 20) ∧ (h282 90 22) = (h 90 22) ∧ (h282 90 25) = (h 90 25) ∧ (h282 90 26) = (h 90 26) ∧ (h282 90 28) = (h 90 28) ∧ (h282 90 29) = (h 90 29) ∧ (h282 90 30) = (h 90 30) ∧ (h282 90 34) = (h 90 34) ∧ 0 < (h282 90 8) ∧ (h 90 8) ≤ (h282 90 8) := f266
    clear f266
    have cf299 : h282 96 340 = h 96 340 := congrFun E288 340
    have cf300 : h282 96 341 = h 96 341 := congrFun E288 341
    have cf301 : h282 96 342 = h 96 342 := congrFun E288 342
    have cf302 : h282 96 349 = h 96 349 := congrFun E288 349
    have R303 : ov_RD (h 96) (h 97) (h 98) (h 90 13) (h282 96) (h282 97) (h282 98) (h 90 13) := by rw [show h282 96 = h 96 from E288, show h282 97 = h 97 from E289, show h282 98 = h 98 from E290]; exact ov_RD_refl _ _ _ _
    exact ov_retv (st := []) d_224_19 rfl ⟨rfl, I283, (by show (h282 90 2) = (h 90 2) ∧ (h282 90 20) = (h 90 20) ∧ (h282 90 22) = (h 90 22) ∧ (h282 90 25) = (h 90 25) ∧ (h282 90 26) = (h 90 26) ∧ (h282 90 28) = (h 90 28) ∧ (h282 90 29) = (h 90 29) ∧ (h282 90 30) = (h 90 30) ∧ (h282 90 34) = (h 90 34) ∧ (h 90 7) ≤ (h282 90 7) ∧ (h282 90 7) ≤ n ∧ (h 90 13) ≤ (h282 90 13) ∧ (h282 90 13) - (h 90 13) ≤ (h282 90 7) - (h 90 7) ∧ (h282 96 340) = (h 96 340) ∧ (h282 96 341) = (h 96 341) ∧ ((h282 90 8) = 0 → 1 ≤ (h 96 342) → 1 ≤ (h282 96 342)) ∧ (1 ≤ (h 96 349) → 1 ≤ (h282 96 349)); omega), E284, E285, E286, E287, E292, E293, E294, E295, E296, E297, R303.1, R303.2.1, (fun _ w => by show ov_CS (h282 96) (h282 97) (h282 98) (h282 90 13); rw [show (h282 90 13) = h 90 13 by omega]; exact R303.2.2 w)⟩

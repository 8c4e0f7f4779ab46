abbrev P_Mo_readOnce_90 (F : ov_H × ov_Z) (z : ov_Z) (h : ov_H) (n : Int) : Option ov_V → ov_Z → ov_H → Prop := fun r0 z' h' => r0 = none ∧ ov_N F z' h' ∧ ((h' 90 2) = (h 90 2) ∧ (h' 90 13) = (h 90 13) ∧ (h' 90 20) = (h 90 20) ∧ (h' 90 22) = (h 90 22) ∧ (h' 90 25) = (h 90 25) ∧ (h' 90 26) = (h 90 26) ∧ (h' 90 28) = (h 90 28) ∧ (h' 90 29) = (h 90 29) ∧ (h' 90 30) = (h 90 30) ∧ (h' 90 34) = (h 90 34) ∧ (h 90 7) ≤ (h' 90 7) ∧ (h' 90 7) ≤ n ∧ (h 90 13) ≤ (h' 90 13) ∧ (h' 90 13) - (h 90 13) ≤ (h' 90 7) - (h 90 7) ∧ (h' 96 340) = (h 96 340) ∧ (h' 96 341) = (h 96 341) ∧ ((h' 90 8) = 0 → 1 ≤ (h 96 342) → 1 ≤ (h' 96 342)) ∧ (1 ≤ (h 96 349) → 1 ≤ (h' 96 349))) ∧ h' 92 = h 92 ∧ h' 93 = h 93 ∧ h' 94 = h 94 ∧ h' 95 = h 95 ∧ h' 97 = h 97 ∧ h' 98 = h 98 ∧ h' 99 = h 99 ∧ h' 100 = h 100 ∧ h' 103 = h 103 ∧ h' 105 = h 105 ∧ h' 106 = h 106 ∧ h' 109 = h 109 ∧ h' 114 = h 114 ∧ (ov_MK (h 96) (h 97) (h 98) (h' 96) (h' 97) (h' 98)) ∧ (ov_WS (h 96) → ov_WS (h' 96)) ∧ ((h' 90 8) = 0 → ov_CS (h 96) (h 97) (h 98) (h 90 13) → ov_CS (h' 96) (h' 97) (h' 98) (h' 90 13))
set_option maxHeartbeats 4000000 in
theorem c_Mo_readOnce_90 {u : ov_U} {F : ov_H × ov_Z} (n : Int) {z : ov_Z} {h : ov_H} (d : Nat) (hd : 2 ≤ d) (U : ov_cap u) (I : ov_N F z h) (p0 : 0 ≤ n ∧ n ≤ 1000 ∧ (h 92 (n)) = 0 ∧ (h 90 7) ≤ n) (p1 : (h 90 13) ≤ (h 90 7)) (p2 : (h 90 8) = 0) (p3 : (h 90 7) < n) : ov_T u d ov_m233 [ov_r 90] z h (P_Mo_readOnce_90 F z h n) := by
  refine ov_en rfl (Nat.le_of_ble_eq_true rfl) ?_
  show ov_R u d ov_m233 0 [(0, ov_r 90)] [] z h (P_Mo_readOnce_90 F z h n)
  refine ov_blk (ls2 := [(0, ov_r 90)]) (st2 := [ov_i 5, ov_i 4, ov_r 90]) (pc2 := 3) b_233_0_3 rfl rfl ?_
  refine ov_cV (as := [ov_i 4, ov_i 5]) (st := []) (d2 := d - 1) d_233_3 lk_Mo_202 rfl (Nat.le_of_ble_eq_true rfl) (c := 1) (zb_90 I) (zs_90 I) ⟨by decide, rfl⟩ (by omega) (c_Mo_wordHere_90 n (d - 1) (by omega) U I 4 5 (by omega) (by omega) (by show 0 ≤ n ∧ n ≤ 1000 ∧ (h 92 (n)) = 0 ∧ (h 90 7) ≤ n; omega) (by omega)) ?_
  rintro _ _ _ ⟨v2, rfl, rfl, rfl, f1⟩
  show ov_R u d ov_m233 6 [(0, ov_r 90)] [ov_i v2] z h (P_Mo_readOnce_90 F z h n)
  have f3 : -1 ≤ v2 ∧ v2 < (5 : Int) ∧ (0 ≤ v2 → (h 90 7) < n ∧ (h 90 8) = 0) := f1
  clear f1
  refine ov_blk (ls2 := [(0, ov_r 90), (1, ov_i v2)]) (st2 := [ov_i v2]) (pc2 := 8) b_233_6_2 rfl rfl ?_
  refine ov_ifge (tgt := 19) d_233_8 (by decide) (by omega) (fun c4 => ?_) (fun c4 => ?_)
  · skip
    refine ov_blk (ls2 := [(0, ov_r 90), (1, ov_i v2)]) (st2 := [ov_r 90]) (pc2 := 20) b_233_19_1 rfl rfl ?_
    refine ov_getf (v := ov_i (h 90 15)) d_233_20 fl_Mo_211 (zb_90 I) (zs_90 I) rfl ?_
    have g5 := rg_90_15 I
    refine ov_blk (ls2 := [(0, ov_r 90), (1, ov_i v2)]) (st2 := [ov_i 1, ov_i (ov_and (ov_shr (h 90 15) v2) 1)]) (pc2 := 28) b_233_23_5 rfl rfl ?_
    have g6 := ov_shrg (h 90 15) v2
    have g7 := ov_andg (ov_shr (h 90 15) v2) 1
    have g8 := ov_and1 (ov_shr (h 90 15) v2)
    refine ov_icne (tgt := 36) d_233_28 (by decide) (by omega) (by omega) (fun c9 => ?_) (fun c9 => ?_)
    · skip
      refine ov_blk (ls2 := [(0, ov_r 90), (1, ov_i v2)]) (st2 := [ov_r 90]) (pc2 := 37) b_233_36_1 rfl rfl ?_
      refine ov_getf (v := ov_i (h 90 8)) d_233_37 fl_Mo_180 (zb_90 I) (zs_90 I) rfl ?_
      have g10 := rg_90_8 I
      refine ov_ifle (tgt := 44) d_233_40 (by decide) (by omega) (fun c11 => ?_) (fun c11 => ?_)
      · skip
        refine ov_blk (ls2 := [(0, ov_r 90), (1, ov_i v2)]) (st2 := [ov_r 90, ov_r 90]) (pc2 := 46) b_233_44_2 rfl rfl ?_
        refine ov_getf (v := ov_i (h 90 15)) d_233_46 fl_Mo_211 (zb_90 I) (zs_90 I) rfl ?_
        refine ov_blk (ls2 := [(0, ov_r 90), (1, ov_i v2)]) (st2 := [ov_i (ov_or (h 90 15) (ov_shl 1 v2)), ov_r 90]) (pc2 := 53) b_233_49_4 rfl rfl ?_
        have g13 := ov_shlg 1 v2
        have g14 := ov_org (h 90 15) (ov_shl 1 v2)
        refine ov_havw (fun w15 gw15 qw15 => ?_)
        refine ov_putf (x := w15) d_233_53 fl_Mo_211 (zb_90 I) (zs_90 I) rfl nk_0 rfl ?_
        have I16 := up_90_15 (x := w15) I (by omega)
        refine ov_blk (ls2 := [(0, ov_r 90), (1, ov_i v2)]) (st2 := [ov_r 90, ov_r 90]) (pc2 := 58) b_233_56_2 rfl rfl ?_
        refine ov_getf (v := ov_i (h 90 7)) d_233_58 fl_Mo_177 (zb_90 I16) (zs_90 I16) rfl ?_
        have g17 := rg_90_7 I
        refine ov_blk (ls2 := [(0, ov_r 90), (1, ov_i v2)]) (st2 := [ov_i ((h 90 7) + 1), ov_r 90]) (pc2 := 63) b_233_61_2 rfl rfl ?_
        refine ov_putf (x := ((h 90 7) + 1)) d_233_63 fl_Mo_177 (zb_90 I16) (zs_90 I16) rfl nk_0 rfl ?_
        have I18 := up_90_7 (x := ((h 90 7) + 1)) I16 (by omega)
        refine ov_blk (ls2 := [(0, ov_r 90), (1, ov_i v2)]) (st2 := [ov_r 90]) (pc2 := 67) b_233_66_1 rfl rfl ?_
        refine ov_getf (v := ov_r 96) d_233_67 fl_Mo_81 (zb_90 I18) (zs_90 I18) (congrArg ov_r (rg_90_10 I18)) ?_
        refine ov_blk (ls2 := [(0, ov_r 90), (1, ov_i v2)]) (st2 := [ov_i 4, ov_i v2, ov_i (342 + v2), ov_r 96]) (pc2 := 77) b_233_70_5 rfl rfl ?_
        refine ov_icne (tgt := 84) d_233_77 (by decide) (by omega) (by omega) (fun c19 => ?_) (fun c19 => ?_)
        · skip
          refine ov_blk (ls2 := [(0, ov_r 90), (1, ov_i v2)]) (st2 := [ov_i 3, ov_i v2, ov_i (342 + v2), ov_r 96]) (pc2 := 86) b_233_84_2 rfl rfl ?_
          refine ov_icne (tgt := 99) d_233_86 (by decide) (by omega) (by omega) (fun c20 => ?_) (fun c20 => ?_)
          · skip
            refine ov_blk (ls2 := [(0, ov_r 90), (1, ov_i v2)]) (st2 := [ov_i 30, ov_i 1, ov_r 90, ov_i (342 + v2), ov_r 96]) (pc2 := 103) b_233_99_3 rfl rfl ?_
            refine ov_cV (as := [ov_i 1, ov_i 30]) (st := [ov_i (342 + v2), ov_r 96]) (d2 := d - 1) d_233_103 lk_Mo_198 rfl (Nat.le_of_ble_eq_true rfl) (c := 1) (zb_90 I18) (zs_90 I18) ⟨by decide, rfl⟩ (by omega) (c_Mo_takeNumber_90 n (d - 1) (by omega) U I18 1 30 (by omega) (by omega) (by show 0 ≤ n ∧ n ≤ 1000 ∧ (h 92 (n)) = 0 ∧ ((h 90 7) + 1) ≤ n; omega)) ?_
            rintro _ z37 h38 ⟨v22, rfl, I39, f21, e23, e24, e25, e26, e27, e28, e29, e30, e31, e32, e33, e34, e35, e36⟩
            have E40 : h38 92 = h 92 := e23
            have E41 : h38 93 = h 93 := e24
            have E42 : h38 94 = h 94 := e25
            have E43 : h38 95 = h 95 := e26
            have E44 : h38 96 = h 96 := e27
            have E45 : h38 97 = h 97 := e28
            have E46 : h38 98 = h 98 := e29
            have E47 : h38 99 = h 99 := e30
            have E48 : h38 100 = h 100 := e31
            have E49 : h38 103 = h 103 := e32
            have E50 : h38 105 = h 105 := e33
            have E51 : h38 106 = h 106 := e34
            have E52 : h38 109 = h 109 := e35
            have E53 : h38 114 = h 114 := e36
            show ov_R u d ov_m233 106 [(0, ov_r 90), (1, ov_i v2)] [ov_i v22, ov_i (342 + v2), ov_r 96] z37 h38 (P_Mo_readOnce_90 F z h n)
            have f54 : (h38 90 2) = (h 90 2) ∧ (h38 90 13) = (h 90 13) ∧ (h38 90 20) = (h 90 20) ∧ (h38 90 22) = (h 90 22) ∧ (h38 90 25) = (h 90 25) ∧ (h38 90 26) = (h 90 26) ∧ (h38 90 28) = (h 90 28) ∧ (h38 90 29) = (h 90 29) ∧ (h38 90 30) = (h 90 30) ∧ (h38 90 34) = (h 90 34) ∧ ((h 90 7) + 1) ≤ (h38 90 7) ∧ (h38 90 7) ≤ n ∧ (h 90 8) ≤ (h38 90 8) ∧ ((h38 90 8) = 0 → (1 : Int) ≤ v22 ∧ v22 ≤ (30 : Int)) ∧ (0 < (h38 90 8) → v22 = 0) ∧ ((h 90 7) + 1) < (h38 90 7) + (h38 90 8) := f21
            clear f21
            refine ov_iast d_233_106 (zb_96 I39) (zs_96 I39) (by omega) ?_
            have I55 := ua_96 (k := (342 + v2)) (x := v22) I39 (by refine ⟨?_, ?_, ?_, ?_, ?_, ?_, ?_, ?_, ?_, ?_, ?_, ?_, ?_, ?_, ?_, ?_, ?_, ?_, ?_, ?_, ?_, ?_, ?_, ?_, ?_, ?_, ?_, ?_, ?_⟩ <;> omega)
            have R56 : ov_RD (h 96) (h 97) (h 98) (h 90 13) (h38 96) (h38 97) (h38 98) (h 90 13) := by rw [show h38 96 = h 96 from E44, show h38 97 = h 97 from E45, show h38 98 = h 98 from E46]; exact ov_RD_refl _ _ _ _
            have R57 : ov_RD (h 96) (h 97) (h 98) (h 90 13) ((ov_up h38 96 (342 + v2) v22) 96) ((ov_up h38 96 (342 + v2) v22) 97) ((ov_up h38 96 (342 + v2) v22) 98) (h 90 13) := by rw [ov_up_row]; exact ov_RD_w R56 (t96_348 I39).2 (by omega)
            have qo1 : ((342 + v2)) = 342 → ((ov_up h38 96 (342 + v2) v22) 96 342) = v22 := fun e => by rw [ov_up_row]; unfold ov_rs; rw [if_pos e.symm]
            have qo2 : ¬ ((342 + v2)) = 342 → ((ov_up h38 96 (342 + v2) v22) 96 342) = h38 96 342 := fun e => by rw [ov_up_j (fun q => e q.symm)]; try rfl
            have lt58 : ((ov_up h38 96 (342 + v2) v22) 96 340) = h38 96 340 := by try rw [ov_up_j (by omega)]; try rfl
            have lt59 : h38 96 340 = h 96 340 := congrFun E44 340
            have lt60 : ((ov_up h38 96 (342 + v2) v22) 96 341) = h38 96 341 := by try rw [ov_up_j (by omega)]; try rfl
            have lt61 : h38 96 341 = h 96 341 := congrFun E44 341
            have lt62 : ((ov_up h38 96 (342 + v2) v22) 96 348) = h38 96 348 := by try rw [ov_up_j (by omega)]; try rfl
            have lt63 : h38 96 348 = h 96 348 := congrFun E44 348
            have lt64 : ((ov_up h38 96 (342 + v2) v22) 96 349) = h38 96 349 := by try rw [ov_up_j (by omega)]; try rfl
            have lt65 : h38 96 349 = h 96 349 := congrFun E44 349
            have qo3 : h38 96 342 = h 96 342 := congrFun E44 342
            have cf66 : h38 96 340 = h 96 340 := congrFun E44 340
            have cf67 : h38 96 341 = h 96 341 := congrFun E44 341
            have cf68 : h38 96 342 = h 96 342 := congrFun E44 342
            have cf69 : h38 96 349 = h 96 349 := congrFun E44 349
            exact ov_retv (st := []) d_233_107 rfl ⟨rfl, I55, (by show (h38 90 2) = (h 90 2) ∧ (h38 90 13) = (h 90 13) ∧ (h38 90 20) = (h 90 20) ∧ (h38 90 22) = (h 90 22) ∧ (h38 90 25) = (h 90 25) ∧ (h38 90 26) = (h 90 26) ∧ (h38 90 28) = (h 90 28) ∧ (h38 90 29) = (h 90 29) ∧ (h38 90 30) = (h 90 30) ∧ (h38 90 34) = (h 90 34) ∧ (h 90 7) ≤ (h38 90 7) ∧ (h38 90 7) ≤ n ∧ (h 90 13) ≤ (h38 90 13) ∧ (h38 90 13) - (h 90 13) ≤ (h38 90 7) - (h 90 7) ∧ ((ov_up h38 96 (342 + v2) v22) 96 340) = (h 96 340) ∧ ((ov_up h38 96 (342 + v2) v22) 96 341) = (h 96 341) ∧ ((h38 90 8) = 0 → 1 ≤ (h 96 342) → 1 ≤ ((ov_up h38 96 (342 + v2) v22) 96 342)) ∧ (1 ≤ (h 96 349) → 1 ≤ ((ov_up h38 96 (342 + v2) v22) 96 349)); omega), E40, E41, E42, E43, E45, E46, E47, E48, E49, E50, E51, E52, E53, R57.1, R57.2.1, (fun _ w => by show ov_CS ((ov_up h38 96 (342 + v2) v22) 96) ((ov_up h38 96 (342 + v2) v22) 97) ((ov_up h38 96 (342 + v2) v22) 98) (h38 90 13); rw [show (h38 90 13) = h 90 13 by omega]; exact R57.2.2 w)⟩
          · skip
            refine ov_blk (ls2 := [(0, ov_r 90), (1, ov_i v2)]) (st2 := [ov_i 9, ov_i 0, ov_r 90, ov_i (342 + v2), ov_r 96]) (pc2 := 93) b_233_89_3 rfl rfl ?_
            refine ov_cV (as := [ov_i 0, ov_i 9]) (st := [ov_i (342 + v2), ov_r 96]) (d2 := d - 1) d_233_93 lk_Mo_198 rfl (Nat.le_of_ble_eq_true rfl) (c := 1) (zb_90 I18) (zs_90 I18) ⟨by decide, rfl⟩ (by omega) (c_Mo_takeNumber_90 n (d - 1) (by omega) U I18 0 9 (by omega) (by omega) (by show 0 ≤ n ∧ n ≤ 1000 ∧ (h 92 (n)) = 0 ∧ ((h 90 7) + 1) ≤ n; omega)) ?_
            rintro _ z86 h87 ⟨v71, rfl, I88, f70, e72, e73, e74, e75, e76, e77, e78, e79, e80, e81, e82, e83, e84, e85⟩
            have E89 : h87 92 = h 92 := e72
            have E90 : h87 93 = h 93 := e73
            have E91 : h87 94 = h 94 := e74
            have E92 : h87 95 = h 95 := e75
            have E93 : h87 96 = h 96 := e76
            have E94 : h87 97 = h 97 := e77
            have E95 : h87 98 = h 98 := e78
            have E96 : h87 99 = h 99 := e79
            have E97 : h87 100 = h 100 := e80
            have E98 : h87 103 = h 103 := e81
            have E99 : h87 105 = h 105 := e82
            have E100 : h87 106 = h 106 := e83
            have E101 : h87 109 = h 109 := e84
            have E102 : h87 114 = h 114 := e85
            show ov_R u d ov_m233 96 [(0, ov_r 90), (1, ov_i v2)] [ov_i v71, ov_i (342 + v2), ov_r 96] z86 h87 (P_Mo_readOnce_90 F z h n)
            have f103 : (h87 90 2) = (h 90 2) ∧ (h87 90 13) = (h 90 13) ∧ (h87 90 20) = (h 90 20) ∧ (h87 90 22) = (h 90 22) ∧ (h87 90 25) = (h 90 25) ∧ (h87 90 26) = (h 90 26) ∧ (h87 90 28) = (h 90 28) ∧ (h87 90 29) = (h 90 29) ∧ (h87 90 30) = (h 90 30) ∧ (h87 90 34) = (h 90 34) ∧ ((h 90 7) + 1) ≤ (h87 90 7) ∧ (h87 90 7) ≤ n ∧ (h 90 8) ≤ (h87 90 8) ∧ ((h87 90 8) = 0 → (0 : Int) ≤ v71 ∧ v71 ≤ (9 : Int)) ∧ (0 < (h87 90 8) → v71 = 0) ∧ ((h 90 7) + 1) < (h87 90 7) + (h87 90 8) := f70
            clear f70
            refine ov_goto (tgt := 106) d_233_96 (by decide) ?_
            refine ov_iast d_233_106 (zb_96 I88) (zs_96 I88) (by omega) ?_
            have I104 := ua_96 (k := (342 + v2)) (x := v71) I88 (by refine ⟨?_, ?_, ?_, ?_, ?_, ?_, ?_, ?_, ?_, ?_, ?_, ?_, ?_, ?_, ?_, ?_, ?_, ?_, ?_, ?_, ?_, ?_, ?_, ?_, ?_, ?_, ?_, ?_, ?_⟩ <;> omega)
            have R105 : ov_RD (h 96) (h 97) (h 98) (h 90 13) (h87 96) (h87 97) (h87 98) (h 90 13) := by rw [show h87 96 = h 96 from E93, show h87 97 = h 97 from E94, show h87 98 = h 98 from E95]; exact ov_RD_refl _ _ _ _
            have R106 : ov_RD (h 96) (h 97) (h 98) (h 90 13) ((ov_up h87 96 (342 + v2) v71) 96) ((ov_up h87 96 (342 + v2) v71) 97) ((ov_up h87 96 (342 + v2) v71) 98) (h 90 13) := by rw [ov_up_row]; exact ov_RD_w R105 (t96_348 I88).2 (by omega)
            have qo1 : ((342 + v2)) = 342 → ((ov_up h87 96 (342 + v2) v71) 96 342) = v71 := fun e => by rw [ov_up_row]; unfold ov_rs; rw [if_pos e.symm]
            have qo2 : ¬ ((342 + v2)) = 342 → ((ov_up h87 96 (342 + v2) v71) 96 342) = h87 96 342 := fun e => by rw [ov_up_j (fun q => e q.symm)]; try rfl
            have lt107 : ((ov_up h87 96 (342 + v2) v71) 96 340) = h87 96 340 := by try rw [ov_up_j (by omega)]; try rfl
            have lt108 : h87 96 340 = h 96 340 := congrFun E93 340
            have lt109 : ((ov_up h87 96 (342 + v2) v71) 96 341) = h87 96 341 := by try rw [ov_up_j (by omega)]; try rfl
            have lt110 : h87 96 341 = h 96 341 := congrFun E93 341
            have lt111 : ((ov_up h87 96 (342 + v2) v71) 96 348) = h87 96 348 := by try rw [ov_up_j (by omega)]; try rfl
            have lt112 : h87 96 348 = h 96 348 := congrFun E93 348
            have lt113 : ((ov_up h87 96 (342 + v2) v71) 96 349) = h87 96 349 := by try rw [ov_up_j (by omega)]; try rfl
            have lt114 : h87 96 349 = h 96 349 := congrFun E93 349
            have qo3 : h87 96 342 = h 96 342 := congrFun E93 342
            have cf115 : h87 96 340 = h 96 340 := congrFun E93 340
            have cf116 : h87 96 341 = h 96 341 := congrFun E93 341
            have cf117 : h87 96 342 = h 96 342 := congrFun E93 342
            have cf118 : h87 96 349 = h 96 349 := congrFun E93 349
            exact ov_retv (st := []) d_233_107 rfl ⟨rfl, I104, (by show (h87 90 2) = (h 90 2) ∧ (h87 90 13) = (h 90 13) ∧ (h87 90 20) = (h 90 20) ∧ (h87 90 22) = (h 90 22) ∧ (h87 90 25) = (h 90 25) ∧ (h87 90 26) = (h 90 26) ∧ (h87 90 28) = (h 90 28) ∧ (h87 90 29) = (h 90 29) ∧ (h87 90 30) = (h 90 30) ∧ (h87 90 34) = (h 90 34) ∧ (h 90 7) ≤ (h87 90 7) ∧ (h87 90 7) ≤ n ∧ (h 90 13) ≤ (h87 90 13) ∧ (h87 90 13) - (h 90 13) ≤ (h87 90 7) - (h 90 7) ∧ ((ov_up h87 96 (342 + v2) v71) 96 340) = (h 96 340) ∧ ((ov_up h87 96 (342 + v2) v71) 96 341) = (h 96 341) ∧ ((h87 90 8) = 0 → 1 ≤ (h 96 342) → 1 ≤ ((ov_up h87 96 (342 + v2) v71) 96 342)) ∧ (1 ≤ (h 96 349) → 1 ≤ ((ov_up h87 96 (342 + v2) v71) 96 349)); omega), E89, E90, E91, E92, E94, E95, E96, E97, E98, E99, E100, E101, E102, R106.1, R106.2.1, (fun _ w => by show ov_CS ((ov_up h87 96 (342 + v2) v71) 96) ((ov_up h87 96 (342 + v2) v71) 97) ((ov_up h87 96 (342 + v2) v71) 98) (h87 90 13); rw [show (h87 90 13) = h 90 13 by omega]; exact R106.2.2 w)⟩
        · skip
          refine ov_blk (ls2 := [(0, ov_r 90), (1, ov_i v2)]) (st2 := [ov_i 1, ov_i (342 + v2), ov_r 96]) (pc2 := 81) b_233_80_1 rfl rfl ?_
          refine ov_goto (tgt := 106) d_233_81 (by decide) ?_
          refine ov_iast d_233_106 (zb_96 I18) (zs_96 I18) (by omega) ?_
          have I119 := ua_96 (k := (342 + v2)) (x := 1) I18 (by refine ⟨?_, ?_, ?_, ?_, ?_, ?_, ?_, ?_, ?_, ?_, ?_, ?_, ?_, ?_, ?_, ?_, ?_, ?_, ?_, ?_, ?_, ?_, ?_, ?_, ?_, ?_, ?_, ?_, ?_⟩ <;> omega)
          have R120 : ov_RD (h 96) (h 97) (h 98) (h 90 13) ((ov_up (ov_up h 90 15 w15) 90 7 ((h 90 7) + 1)) 96) ((ov_up (ov_up h 90 15 w15) 90 7 ((h 90 7) + 1)) 97) ((ov_up (ov_up h 90 15 w15) 90 7 ((h 90 7) + 1)) 98) (h 90 13) := by exact ov_RD_refl _ _ _ _
          have R121 : ov_RD (h 96) (h 97) (h 98) (h 90 13) ((ov_up (ov_up (ov_up h 90 15 w15) 90 7 ((h 90 7) + 1)) 96 (342 + v2) 1) 96) ((ov_up (ov_up (ov_up h 90 15 w15) 90 7 ((h 90 7) + 1)) 96 (342 + v2) 1) 97) ((ov_up (ov_up (ov_up h 90 15 w15) 90 7 ((h 90 7) + 1)) 96 (342 + v2) 1) 98) (h 90 13) := by rw [ov_up_row]; exact ov_RD_w R120 (t96_348 I18).2 (by omega)
          have qo1 : ((342 + v2)) = 342 → ((ov_up (ov_up (ov_up h 90 15 w15) 90 7 ((h 90 7) + 1)) 96 (342 + v2) 1) 96 342) = 1 := fun e => by rw [ov_up_row]; unfold ov_rs; rw [if_pos e.symm]
          have qo2 : ¬ ((342 + v2)) = 342 → ((ov_up (ov_up (ov_up h 90 15 w15) 90 7 ((h 90 7) + 1)) 96 (342 + v2) 1) 96 342) = h 96 342 := fun e => by rw [ov_up_j (fun q => e q.symm)]; try rfl
          have lt122 : ((ov_up (ov_up (ov_up h 90 15 w15) 90 7 ((h 90 7) + 1)) 96 (342 + v2) 1) 96 340) = h 96 340 := by try rw [ov_up_j (by omega)]; try show (ov_up h 90 15 w15) 96 340 = _; try show h 96 340 = _; try rfl
          have lt123 : ((ov_up (ov_up (ov_up h 90 15 w15) 90 7 ((h 90 7) + 1)) 96 (342 + v2) 1) 96 341) = h 96 341 := by try rw [ov_up_j (by omega)]; try show (ov_up h 90 15 w15) 96 341 = _; try show h 96 341 = _; try rfl
          have lt124 : ((ov_up (ov_up (ov_up h 90 15 w15) 90 7 ((h 90 7) + 1)) 96 (342 + v2) 1) 96 348) = h 96 348 := by try rw [ov_up_j (by omega)]; try show (ov_up h 90 15 w15) 96 348 = _; try show h 96 348 = _; try rfl
          have lt125 : ((ov_up (ov_up (ov_up h 90 15 w15) 90 7 ((h 90 7) + 1)) 96 (342 + v2) 1) 96 349) = h 96 349 := by try rw [ov_up_j (by omega)]; try show (ov_up h 90 15 w15) 96 349 = _; try show h 96 349 = _; try rfl
          exact ov_retv (st := []) d_233_107 rfl ⟨rfl, I119, ⟨rfl, rfl, rfl, rfl, rfl, rfl, rfl, rfl, rfl, rfl, (by show (h 90 7) ≤ ((h 90 7) + 1) ∧ ((h 90 7) + 1) ≤ n ∧ (h 90 13) ≤ (h 90 13) ∧ (h 90 13) - (h 90 13) ≤ ((h 90 7) + 1) - (h 90 7) ∧ ((ov_up (ov_up (ov_up h 90 15 w15) 90 7 ((h 90 7) + 1)) 96 (342 + v2) 1) 96 340) = (h 96 340) ∧ ((ov_up (ov_up (ov_up h 90 15 w15) 90 7 ((h 90 7) + 1)) 96 (342 + v2) 1) 96 341) = (h 96 341) ∧ ((h 90 8) = 0 → 1 ≤ (h 96 342) → 1 ≤ ((ov_up (ov_up (ov_up h 90 15 w15) 90 7 ((h 90 7) + 1)) 96 (342 + v2) 1) 96 342)) ∧ (1 ≤ (h 96 349) → 1 ≤ ((ov_up (ov_up (ov_up h 90 15 w15) 90 7 ((h 90 7) + 1)) 96 (342 + v2) 1) 96 349)); omega)⟩, rfl, rfl, rfl, rfl, rfl, rfl, rfl, rfl, rfl, rfl, rfl, rfl, rfl, R121.1, R121.2.1, (fun _ w => by show ov_CS ((ov_up (ov_up (ov_up h 90 15 w15) 90 7 ((h 90 7) + 1)) 96 (342 + v2) 1) 96) ((ov_up (ov_up (ov_up h 90 15 w15) 90 7 ((h 90 7) + 1)) 96 (342 + v2) 1) 97) ((ov_up (ov_up (ov_up h 90 15 w15) 90 7 ((h 90 7) + 1)) 96 (342 + v2) 1) 98) (h 90 13); rw [show (h 90 13) = h 90 13 by omega]; exact R121.2.2 w)⟩
      · skip
        have R126 : ov_RD (h 96) (h 97) (h 98) (h 90 13) (h 96) (h 97) (h 98) (h 90 13) := by exact ov_RD_refl _ _ _ _
        exact ov_retv (st := []) d_233_43 rfl ⟨rfl, I, ⟨rfl, rfl, rfl, rfl, rfl, rfl, rfl, rfl, rfl, rfl, (by show (h 90 7) ≤ (h 90 7) ∧ (h 90 7) ≤ n ∧ (h 90 13) ≤ (h 90 13) ∧ (h 90 13) - (h 90 13) ≤ (h 90 7) - (h 90 7) ∧ (h 96 340) = (h 96 340) ∧ (h 96 341) = (h 96 341) ∧ ((h 90 8) = 0 → 1 ≤ (h 96 342) → 1 ≤ (h 96 342)) ∧ (1 ≤ (h 96 349) → 1 ≤ (h 96 349)); omega)⟩, rfl, rfl, rfl, rfl, rfl, rfl, rfl, rfl, rfl, rfl, rfl, rfl, rfl, R126.1, R126.2.1, (fun _ w => by show ov_CS (h 96) (h 97) (h 98) (h 90 13); rw [show (h 90 13) = h 90 13 by omega]; exact R126.2.2 w)⟩
    · skip
      refine ov_blk (ls2 := [(0, ov_r 90), (1, ov_i v2)]) (st2 := [ov_i 3, ov_r 90]) (pc2 := 33) b_233_31_2 rfl rfl ?_
      refine ov_cV (as := [ov_i 3]) (st := []) (d2 := d - 1) d_233_33 lk_Mo_186 rfl (Nat.le_of_ble_eq_true rfl) (c := 1) (zb_90 I) (zs_90 I) ⟨by decide, rfl⟩ (by omega) (c_Mo_wrong_90 (d - 1) (by omega) U I 3 (by omega) (by omega)) ?_
      rintro _ z142 h143 ⟨rfl, I144, f127, e128, e129, e130, e131, e132, e133, e134, e135, e136, e137, e138, e139, e140, e141⟩
      have E145 : h143 92 = h 92 := e128
      have E146 : h143 93 = h 93 := e129
      have E147 : h143 94 = h 94 := e130
      have E148 : h143 95 = h 95 := e131
      have E149 : h143 96 = h 96 := e132
      have E150 : h143 97 = h 97 := e133
      have E151 : h143 98 = h 98 := e134
      have E152 : h143 99 = h 99 := e135
      have E153 : h143 100 = h 100 := e136
      have E154 : h143 103 = h 103 := e137
      have E155 : h143 105 = h 105 := e138
      have E156 : h143 106 = h 106 := e139
      have E157 : h143 109 = h 109 := e140
      have E158 : h143 114 = h 114 := e141
      show ov_R u d ov_m233 36 [(0, ov_r 90), (1, ov_i v2)] [] z142 h143 (P_Mo_readOnce_90 F z h n)
      have f159 : (h143 90 2) = (h 90 2) ∧ (h143 90 7) = (h 90 7) ∧ (h143 90 13) = (h 90 13) ∧ (h143 90 20) = (h 90 20) ∧ (h143 90 22) = (h 90 22) ∧ (h143 90 25) = (h 90 25) ∧ (h143 90 26) = (h 90 26) ∧ (h143 90 28) = (h 90 28) ∧ (h143 90 29) = (h 90 29) ∧ (h143 90 30) = (h 90 30) ∧ (h143 90 34) = (h 90 34) ∧ 0 < (h143 90 8) ∧ (h 90 8) ≤ (h143 90 8) := f127
      clear f127
      refine ov_blk (ls2 := [(0, ov_r 90), (1, ov_i v2)]) (st2 := [ov_r 90]) (pc2 := 37) b_233_36_1 rfl rfl ?_
      refine ov_getf (v := ov_i (h143 90 8)) d_233_37 fl_Mo_180 (zb_90 I144) (zs_90 I144) rfl ?_
      have g160 := rg_90_8 I144
      refine ov_ifle (tgt := 44) d_233_40 (by decide) (by omega) (fun c161 => ?_) (fun c161 => ?_)
      · omega
      · skip
        have qo3 : h143 96 342 = h 96 342 := congrFun E149 342
        have cf162 : h143 96 340 = h 96 340 := congrFun E149 340
        have cf163 : h143 96 341 = h 96 341 := congrFun E149 341
        have cf164 : h143 96 342 = h 96 342 := congrFun E149 342
        have cf165 : h143 96 349 = h 96 349 := congrFun E149 349
        have R166 : ov_RD (h 96) (h 97) (h 98) (h 90 13) (h143 96) (h143 97) (h143 98) (h 90 13) := by rw [show h143 96 = h 96 from E149, show h143 97 = h 97 from E150, show h143 98 = h 98 from E151]; exact ov_RD_refl _ _ _ _
        exact ov_retv (st := []) d_233_43 rfl ⟨rfl, I144, (by show (h143 90 2) = (h 90 2) ∧ (h143 90 13) = (h 90 13) ∧ (h143 90 20) = (h 90 20) ∧ (h143 90 22) = (h 90 22) ∧ (h143 90 25) = (h 90 25) ∧ (h143 90 26) = (h 90 26) ∧ (h143 90 28) = (h 90 28) ∧ (h143 90 29) = (h 90 29) ∧ (h143 90 30) = (h 90 30) ∧ (h143 90 34) = (h 90 34) ∧ (h 90 7) ≤ (h143 90 7) ∧ (h143 90 7) ≤ n ∧ (h 90 13) ≤ (h143 90 13) ∧ (h143 90 13) - (h 90 13) ≤ (h143 90 7) - (h 90 7) ∧ (h143 96 340) = (h 96 340) ∧ (h143 96 341) = (h 96 341) ∧ ((h143 90 8) = 0 → 1 ≤ (h 96 342) → 1 ≤ (h143 96 342)) ∧ (1 ≤ (h 96 349) → 1 ≤ (h143 96 349)); omega), E145, E146, E147, E148, E150, E151, E152, E153, E154, E155, E156, E157, E158, R166.1, R166.2.1, (fun _ w => by show ov_CS (h143 96) (h143 97) (h143 98) (h143 90 13); rw [show (h143 90 13) = h 90 13 by omega]; exact R166.2.2 w)⟩
  · skip
    refine ov_blk (ls2 := [(0, ov_r 90), (1, ov_i v2)]) (st2 := [ov_i 1, ov_r 90]) (pc2 := 13) b_233_11_2 rfl rfl ?_
    refine ov_cV (as := [ov_i 1]) (st := []) (d2 := d - 1) d_233_13 lk_Mo_186 rfl (Nat.le_of_ble_eq_true rfl) (c := 1) (zb_90 I) (zs_90 I) ⟨by decide, rfl⟩ (by omega) (c_Mo_wrong_90 (d - 1) (by omega) U I 1 (by omega) (by omega)) ?_
    rintro _ z182 h183 ⟨rfl, I184, f167, e168, e169, e170, e171, e172, e173, e174, e175, e176, e177, e178, e179, e180, e181⟩
    have E185 : h183 92 = h 92 := e168
    have E186 : h183 93 = h 93 := e169
    have E187 : h183 94 = h 94 := e170
    have E188 : h183 95 = h 95 := e171
    have E189 : h183 96 = h 96 := e172
    have E190 : h183 97 = h 97 := e173
    have E191 : h183 98 = h 98 := e174
    have E192 : h183 99 = h 99 := e175
    have E193 : h183 100 = h 100 := e176
    have E194 : h183 103 = h 103 := e177
    have E195 : h183 105 = h 105 := e178
    have E196 : h183 106 = h 106 := e179
    have E197 : h183 109 = h 109 := e180
    have E198 : h183 114 = h 114 := e181
    show ov_R u d ov_m233 16 [(0, ov_r 90), (1, ov_i v2)] [] z182 h183 (P_Mo_readOnce_90 F z h n)
    have f199 : (h183 90 2) = (h 90 2) ∧ (h183 90 7) = (h 90 7) ∧ (h183 90 13) = (h 90 13) ∧ (h183 90 20) = (h 90 20) ∧ (h183 90 22) = (h 90 22) ∧ (h183 90 25) = (h 90 25) ∧ (h183 90 26) = (h 90 26) ∧ (h183 90 28) = (h 90 28) ∧ (h183 90 29) = (h 90 29) ∧ (h183 90 30) = (h 90 30) ∧ (h183 90 34) = (h 90 34) ∧ 0 < (h183 90 8) ∧ (h 90 8) ≤ (h183 90 8) := f167
    clear f167
    refine ov_goto (tgt := 36) d_233_16 (by decide) ?_
    refine ov_blk (ls2 := [(0, ov_r 90), (1, ov_i v2)]) (st2 := [ov_r 90]) (pc2 := 37) b_233_36_1 rfl rfl ?_
    refine ov_getf (v := ov_i (h183 90 8)) d_233_37 fl_Mo_180 (zb_90 I184) (zs_90 I184) rfl ?_
    have g200 := rg_90_8 I184
    refine ov_ifle (tgt := 44) d_233_40 (by decide) (by omega) (fun c201 => ?_) (fun c201 => ?_)
    · omega
    · skip
      have qo3 : h183 96 342 = h 96 342 := congrFun E189 342
      have cf202 : h183 96 340 = h 96 340 := congrFun E189 340
      have cf203 : h183 96 341 = h 96 341 := congrFun E189 341
      have cf204 : h183 96 342 = h 96 342 := congrFun E189 342
      have cf205 : h183 96 349 = h 96 349 := congrFun E189 349
      have R206 : ov_RD (h 96) (h 97) (h 98) (h 90 13) (h183 96) (h183 97) (h183 98) (h 90 13) := by rw [show h183 96 = h 96 from E189, show h183 97 = h 97 from E190, show h183 98 = h 98 from E191]; exact ov_RD_refl _ _ _ _
      exact ov_retv (st := []) d_233_43 rfl ⟨rfl, I184, (by show (h183 90 2) = (h 90 2) ∧ (h183 90 13) = (h 90 13) ∧ (h183 90 20) = (h 90 20) ∧ (h183 90 22) = (h 90 22) ∧ (h183 90 25) = (h 90 25) ∧ (h183 90 26) = (h 90 26) ∧ (h183 90 28) = (h 90 28) ∧ (h183 90 29) = (h 90 29) ∧ (h183 90 30) = (h 90 30) ∧ (h183 90 34) = (h 90 34) ∧ (h 90 7) ≤ (h183 90 7) ∧ (h183 90 7) ≤ n ∧ (h 90 13) ≤ (h183 90 13) ∧ (h183 90 13) - (h 90 13) ≤ (h183 90 7) - (h 90 7) ∧ (h183 96 340) = (h 96 340) ∧ (h183 96 341) = (h 96 341) ∧ ((h183 90 8) = 0 → 1 ≤ (h 96 342) → 1 ≤ (h183 96 342)) ∧ (1 ≤ (h 96 349) → 1 ≤ (h183 96 349)); omega), E185, E186, E187, E188, E190, E191, E192, E193, E194, E195, E196, E197, E198, R206.1, R206.2.1, (fun _ w => by show ov_CS (h183 96) (h183 97) (h183 98) (h183 90 13); rw [show (h183 90 13) = h 90 13 by omega]; exact R206.2.2 w)⟩

abbrev P_Mo_readOnce_90 (F : ov_H × ov_Z) (z : ov_Z) (h : ov_H) (n : Int) : Option ov_V → ov_Z → ov_H → Prop := fun r0 z' h' => r0 = none ∧ ov_N F z' h' ∧ ((h' 90 2) = (h 90 2) ∧ (h' 90 13) = (h 90 13) ∧ (h' 90 20) = (h 90 20) ∧ (h' 90 22) = (h 90 22) ∧ (h' 90 25) = (h 90 25) ∧ (h' 90 26) = (h 90 26) ∧ (h' 90 28) = (h 90 28) ∧ (h' 90 29) = (h 90 29) ∧ (h' 90 30) = (h 90 30) ∧ (h' 90 34) = (h 90 34) ∧ (h 90 7) ≤ (h' 90 7) ∧ (h' 90 7) ≤ n ∧ (h 90 13) ≤ (h' 90 13) ∧ (h' 90 13) - (h 90 13) ≤ (h' 90 7) - (h 90 7) ∧ (h' 96 340) = (h 96 340) ∧ (h' 96 341) = (h 96 341) ∧ ((h' 90 8) = 0 → 1 ≤ (h 96 342) → 1 ≤ (h' 96 342)) ∧ (1 ≤ (h 96 349) → 1 ≤ (h' 96 349))) ∧ h' 91 = h 91 ∧ h' 92 = h 92 ∧ h' 93 = h 93 ∧ h' 94 = h 94 ∧ h' 95 = h 95 ∧ h' 97 = h 97 ∧ h' 98 = h 98 ∧ h' 99 = h 99 ∧ h' 100 = h 100 ∧ h' 103 = h 103 ∧ h' 104 = h 104 ∧ h' 105 = h 105 ∧ h' 106 = h 106 ∧ h' 109 = h 109 ∧ h' 114 = h 114 ∧ (ov_MK (h 96) (h 97) (h 98) (h' 96) (h' 97) (h' 98)) ∧ (ov_WS (h 96) → ov_WS (h' 96)) ∧ ((h' 90 8) = 0 → ov_CS (h 96) (h 97) (h 98) (h 90 13) → ov_CS (h' 96) (h' 97) (h' 98) (h' 90 13))
set_option maxHeartbeats 4000000 in
theorem c_Mo_readOnce_90 {u : ov_U} {F : ov_H × ov_Z} (n : Int) {z : ov_Z} {h : ov_H} (d : Nat) (hd : 2 ≤ d) (U : ov_cap u) (I : ov_N F z h) (p0 : 0 ≤ n ∧ n ≤ 1000 ∧ (h 92 (n)) = 0 ∧ (h 90 7) ≤ n) (p1 : (h 90 13) ≤ (h 90 7)) (p2 : (h 90 8) = 0) (p3 : (h 90 7) < n) : ov_T u d ov_m233 [ov_r 90] z h (P_Mo_readOnce_90 F z h n) := by
  refine ov_en rfl (Nat.le_of_ble_eq_true rfl) ?_
  show ov_R u d ov_m233 0 [(0, ov_r 90)] [] z h (P_Mo_readOnce_90 F z h n)
  refine ov_blk (ls2 := [(0, ov_r 90)]) (st2 := [ov_i 5, ov_i 4, ov_r 90]) (pc2 := 3) b_233_0_3 rfl rfl ?_
  refine ov_cV (as := [ov_i 4, ov_i 5]) (st := []) (d2 := d - 1) d_233_3 lk_Mo_202 rfl (Nat.le_of_ble_eq_true rfl) (c := 1) (zb_90 I) (zs_90 I) ⟨by decide, rfl⟩ (by omega) (c_Mo_wordHere_90 n (d - 1) (by omega) U I 4 5 (by omega) (by omega) (by show 0 ≤ n ∧ n ≤ 1000 ∧ (h 92 (n)) = 0 ∧ (h 90 7) ≤ n; omega) (by omega)) ?_
  rintro _ _ _ ⟨v2, rfl, rfl, rfl, f1⟩
  show ov_R u d ov_m233 6 [(0, ov_r 90)] [ov_i v2] z h (P_Mo_readOnce_90 F z h n)
  have f3 : -1 ≤ v2 ∧ v2 < (5 : Int) ∧ (0 ≤ v2 → (h 90 7) < n ∧ (h 90 8) = 0) := f1
  clear f1
  refine ov_blk (ls2 := [(0, ov_r 90), (1, ov_i v2)]) (st2 := [ov_i v2]) (pc2 := 8) b_233_6_2 rfl rfl ?_
  refine ov_ifge (tgt := 19) d_233_8 (by decide) (by omega) (fun c4 => ?_) (fun c4 => ?_)
  · skip
    refine ov_blk (ls2 := [(0, ov_r 90), (1, ov_i v2)]) (st2 := [ov_r 90]) (pc2 := 20) b_233_19_1 rfl rfl ?_
    refine ov_getf (v := ov_i (h 90 15)) d_233_20 fl_Mo_211 (zb_90 I) (zs_90 I) rfl ?_
    have g5 := rg_90_15 I
    refine ov_blk (ls2 := [(0, ov_r 90), (1, ov_i v2)]) (st2 := [ov_i 1, ov_i (ov_and (ov_shr (h 90 15) v2) 1)]) (pc2 := 28) b_233_23_5 rfl rfl ?_
    have g6 := ov_shrg (h 90 15) v2
    have g7 := ov_andg (ov_shr (h 90 15) v2) 1
    have g8 := ov_and1 (ov_shr (h 90 15) v2)
    refine ov_icne (tgt := 36) d_233_28 (by decide) (by omega) (by omega) (fun c9 => ?_) (fun c9 => ?_)
    · skip
      refine ov_blk (ls2 := [(0, ov_r 90), (1, ov_i v2)]) (st2 := [ov_r 90]) (pc2 := 37) b_233_36_1 rfl rfl ?_
      refine ov_getf (v := ov_i (h 90 8)) d_233_37 fl_Mo_180 (zb_90 I) (zs_90 I) rfl ?_
      have g10 := rg_90_8 I
      refine ov_ifle (tgt := 44) d_233_40 (by decide) (by omega) (fun c11 => ?_) (fun c11 => ?_)
      · skip
        refine ov_blk (ls2 := [(0, ov_r 90), (1, ov_i v2)]) (st2 := [ov_r 90, ov_r 90]) (pc2 := 46) b_233_44_2 rfl rfl ?_
        refine ov_getf (v := ov_i (h 90 15)) d_233_46 fl_Mo_211 (zb_90 I) (zs_90 I) rfl ?_
        refine ov_blk (ls2 := [(0, ov_r 90), (1, ov_i v2)]) (st2 := [ov_i (ov_or (h 90 15) (ov_shl 1 v2)), ov_r 90]) (pc2 := 53) b_233_49_4 rfl rfl ?_
        have g13 := ov_shlg 1 v2
        have g14 := ov_org (h 90 15) (ov_shl 1 v2)
        refine ov_havw (fun w15 gw15 qw15 => ?_)
        refine ov_putf (x := w15) d_233_53 fl_Mo_211 (zb_90 I) (zs_90 I) rfl nk_0 rfl ?_
        have I16 := up_90_15 (x := w15) I (by omega)
        refine ov_blk (ls2 := [(0, ov_r 90), (1, ov_i v2)]) (st2 := [ov_r 90, ov_r 90]) (pc2 := 58) b_233_56_2 rfl rfl ?_
        refine ov_getf (v := ov_i (h 90 7)) d_233_58 fl_Mo_177 (zb_90 I16) (zs_90 I16) rfl ?_
        have g17 := rg_90_7 I
        refine ov_blk (ls2 := [(0, ov_r 90), (1, ov_i v2)]) (st2 := [ov_i ((h 90 7) + 1), ov_r 90]) (pc2 := 63) b_233_61_2 rfl rfl ?_
        refine ov_putf (x := ((h 90 7) + 1)) d_233_63 fl_Mo_177 (zb_90 I16) (zs_90 I16) rfl nk_0 rfl ?_
        have I18 := up_90_7 (x := ((h 90 7) + 1)) I16 (by omega)
        refine ov_blk (ls2 := [(0, ov_r 90), (1, ov_i v2)]) (st2 := [ov_r 90]) (pc2 := 67) b_233_66_1 rfl rfl ?_
        refine ov_getf (v := ov_r 96) d_233_67 fl_Mo_81 (zb_90 I18) (zs_90 I18) (congrArg ov_r (rg_90_10 I18)) ?_
        refine ov_blk (ls2 := [(0, ov_r 90), (1, ov_i v2)]) (st2 := [ov_i 4, ov_i v2, ov_i (342 + v2), ov_r 96]) (pc2 := 77) b_233_70_5 rfl rfl ?_
        refine ov_icne (tgt := 84) d_233_77 (by decide) (by omega) (by omega) (fun c19 => ?_) (fun c19 => ?_)
        · skip
          refine ov_blk (ls2 := [(0, ov_r 90), (1, ov_i v2)]) (st2 := [ov_i 3, ov_i v2, ov_i (342 + v2), ov_r 96]) (pc2 := 86) b_233_84_2 rfl rfl ?_
          refine ov_icne (tgt := 99) d_233_86 (by decide) (by omega) (by omega) (fun c20 => ?_) (fun c20 => ?_)
          · skip
            refine ov_blk (ls2 := [(0, ov_r 90), (1, ov_i v2)]) (st2 := [ov_i 30, ov_i 1, ov_r 90, ov_i (342 + v2), ov_r 96]) (pc2 := 103) b_233_99_3 rfl rfl ?_
            refine ov_cV (as := [ov_i 1, ov_i 30]) (st := [ov_i (342 + v2), ov_r 96]) (d2 := d - 1) d_233_103 lk_Mo_198 rfl (Nat.le_of_ble_eq_true rfl) (c := 1) (zb_90 I18) (zs_90 I18) ⟨by decide, rfl⟩ (by omega) (c_Mo_takeNumber_90 n (d - 1) (by omega) U I18 1 30 (by omega) (by omega) (by show 0 ≤ n ∧ n ≤ 1000 ∧ (h 92 (n)) = 0 ∧ ((h 90 7) + 1) ≤ n; omega)) ?_
            rintro _ z39 h40 ⟨v22, rfl, I41, f21, e23, e24, e25, e26, e27, e28, e29, e30, e31, e32, e33, e34, e35, e36, e37, e38⟩
            have E42 : h40 91 = h 91 := e23
            have E43 : h40 92 = h 92 := e24
            have E44 : h40 93 = h 93 := e25
            have E45 : h40 94 = h 94 := e26
            have E46 : h40 95 = h 95 := e27
            have E47 : h40 96 = h 96 := e28
            have E48 : h40 97 = h 97 := e29
            have E49 : h40 98 = h 98 := e30
            have E50 : h40 99 = h 99 := e31
            have E51 : h40 100 = h 100 := e32
            have E52 : h40 103 = h 103 := e33
            have E53 : h40 104 = h 104 := e34
            have E54 : h40 105 = h 105 := e35
            have E55 : h40 106 = h 106 := e36
            have E56 : h40 109 = h 109 := e37
            have E57 : h40 114 = h 114 := e38
            show ov_R u d ov_m233 106 [(0, ov_r 90), (1, ov_i v2)] [ov_i v22, ov_i (342 + v2), ov_r 96] z39 h40 (P_Mo_readOnce_90 F z h n)
            have f58 : (h40 90 2) = (h 90 2) ∧ (h40 90 13) = (h 90 13) ∧ (h40 90 20) = (h 90 20) ∧ (h40 90 22) = (h 90 22) ∧ (h40 90 25) = (h 90 25) ∧ (h40 90 26) = (h 90 26) ∧ (h40 90 28) = (h 90 28) ∧ (h40 90 29) = (h 90 29) ∧ (h40 90 30) = (h 90 30) ∧ (h40 90 34) = (h 90 34) ∧ ((h 90 7) + 1) ≤ (h40 90 7) ∧ (h40 90 7) ≤ n ∧ (h 90 8) ≤ (h40 90 8) ∧ ((h40 90 8) = 0 → (1 : Int) ≤ v22 ∧ v22 ≤ (30 : Int)) ∧ (0 < (h40 90 8) → v22 = 0) ∧ ((h 90 7) + 1) < (h40 90 7) + (h40 90 8) := f21
            clear f21
            refine ov_iast d_233_106 (zb_96 I41) (zs_96 I41) (by omega) ?_
            have I59 := ua_96 (k := (342 + v2)) (x := v22) I41 (by refine ⟨?_, ?_, ?_, ?_, ?_, ?_, ?_, ?_, ?_, ?_, ?_, ?_, ?_, ?_, ?_, ?_, ?_, ?_, ?_, ?_, ?_, ?_, ?_, ?_, ?_, ?_, ?_, ?_, ?_⟩ <;> omega)
            have R60 : ov_RD (h 96) (h 97) (h 98) (h 90 13) (h40 96) (h40 97) (h40 98) (h 90 13) := by rw [show h40 96 = h 96 from E47, show h40 97 = h 97 from E48, show h40 98 = h 98 from E49]; exact ov_RD_refl _ _ _ _
            have R61 : ov_RD (h 96) (h 97) (h 98) (h 90 13) ((ov_up h40 96 (342 + v2) v22) 96) ((ov_up h40 96 (342 + v2) v22) 97) ((ov_up h40 96 (342 + v2) v22) 98) (h 90 13) := by rw [ov_up_row]; exact ov_RD_w R60 (t96_348 I41).2 (by omega)
            have qo1 : ((342 + v2)) = 342 → ((ov_up h40 96 (342 + v2) v22) 96 342) = v22 := fun e => by rw [ov_up_row]; unfold ov_rs; rw [if_pos e.symm]
            have qo2 : ¬ ((342 + v2)) = 342 → ((ov_up h40 96 (342 + v2) v22) 96 342) = h40 96 342 := fun e => by rw [ov_up_j (fun q => e q.symm)]; try rfl
            have lt62 : ((ov_up h40 96 (342 + v2) v22) 96 340) = h40 96 340 := by try rw [ov_up_j (by omega)]; try rfl
            have lt63 : h40 96 340 = h 96 340 := congrFun E47 340
            have lt64 : ((ov_up h40 96 (342 + v2) v22) 96 341) = h40 96 341 := by try rw [ov_up_j (by omega)]; try rfl
            have lt65 : h40 96 341 = h 96 341 := congrFun E47 341
            have lt66 : ((ov_up h40 96 (342 + v2) v22) 96 348) = h40 96 348 := by try rw [ov_up_j (by omega)]; try rfl
            have lt67 : h40 96 348 = h 96 348 := congrFun E47 348
            have lt68 : ((ov_up h40 96 (342 + v2) v22) 96 349) = h40 96 349 := by try rw [ov_up_j (by omega)]; try rfl
            have lt69 : h40 96 349 = h 96 349 := congrFun E47 349
            have qo3 : h40 96 342 = h 96 342 := congrFun E47 342
            have cf70 : h40 96 340 = h 96 340 := congrFun E47 340
            have cf71 : h40 96 341 = h 96 341 := congrFun E47 341
            have cf72 : h40 96 342 = h 96 342 := congrFun E47 342
            have cf73 : h40 96 349 = h 96 349 := congrFun E47 349
            exact ov_retv (st := []) d_233_107 rfl ⟨rfl, I59, (by show (h40 90 2) = (h 90 2) ∧ (h40 90 13) = (h 90 13) ∧ (h40 90 20) = (h 90 20) ∧ (h40 90 22) = (h 90 22) ∧ (h40 90 25) = (h 90 25) ∧ (h40 90 26) = (h 90 26) ∧ (h40 90 28) = (h 90 28) ∧ (h40 90 29) = (h 90 29) ∧ (h40 90 30) = (h 90 30) ∧ (h40 90 34) = (h 90 34) ∧ (h 90 7) ≤ (h40 90 7) ∧ (h40 90 7) ≤ n ∧ (h 90 13) ≤ (h40 90 13) ∧ (h40 90 13) - (h 90 13) ≤ (h40 90 7) - (h 90 7) ∧ ((ov_up h40 96 (342 + v2) v22) 96 340) = (h 96 340) ∧ ((ov_up h40 96 (342 + v2) v22) 96 341) = (h 96 341) ∧ ((h40 90 8) = 0 → 1 ≤ (h 96 342) → 1 ≤ ((ov_up h40 96 (342 + v2) v22) 96 342)) ∧ (1 ≤ (h 96 349) → 1 ≤ ((ov_up h40 96 (342 + v2) v22) 96 349)); omega), E42, E43, E44, E45, E46, E48, E49, E50, E51, E52, E53, E54, E55, E56, E57, R61.1, R61.2.1, (fun _ w => by show ov_CS ((ov_up h40 96 (342 + v2) v22) 96) ((ov_up h40 96 (342 + v2) v22) 97) ((ov_up h40 96 (342 + v2) v22) 98) (h40 90 13); rw [show (h40 90 13) = h 90 13 by omega]; exact R61.2.2 w)⟩
          · skip
            refine ov_blk (ls2 := [(0, ov_r 90), (1, ov_i v2)]) (st2 := [ov_i 9, ov_i 0, ov_r 90, ov_i (342 + v2), ov_r 96]) (pc2 := 93) b_233_89_3 rfl rfl ?_
            refine ov_cV (as := [ov_i 0, ov_i 9]) (st := [ov_i (342 + v2), ov_r 96]) (d2 := d - 1) d_233_93 lk_Mo_198 rfl (Nat.le_of_ble_eq_true rfl) (c := 1) (zb_90 I18) (zs_90 I18) ⟨by decide, rfl⟩ (by omega) (c_Mo_takeNumber_90 n (d - 1) (by omega) U I18 0 9 (by omega) (by omega) (by show 0 ≤ n ∧ n ≤ 1000 ∧ (h 92 (n)) = 0 ∧ ((h 90 7) + 1) ≤ n; omega)) ?_
            rintro _ z92 h93 ⟨v75, rfl, I94, f74, e76, e77, e78, e79, e80, e81, e82, e83, e84, e85, e86, e87, e88, e89, e90, e91⟩
            have E95 : h93 91 = h 91 := e76
            have E96 : h93 92 = h 92 := e77
            have E97 : h93 93 = h 93 := e78
            have E98 : h93 94 = h 94 := e79
            have E99 : h93 95 = h 95 := e80
            have E100 : h93 96 = h 96 := e81
            have E101 : h93 97 = h 97 := e82
            have E102 : h93 98 = h 98 := e83
            have E103 : h93 99 = h 99 := e84
            have E104 : h93 100 = h 100 := e85
            have E105 : h93 103 = h 103 := e86
            have E106 : h93 104 = h 104 := e87
            have E107 : h93 105 = h 105 := e88
            have E108 : h93 106 = h 106 := e89
            have E109 : h93 109 = h 109 := e90
            have E110 : h93 114 = h 114 := e91
            show ov_R u d ov_m233 96 [(0, ov_r 90), (1, ov_i v2)] [ov_i v75, ov_i (342 + v2), ov_r 96] z92 h93 (P_Mo_readOnce_90 F z h n)
            have f111 : (h93 90 2) = (h 90 2) ∧ (h93 90 13) = (h 90 13) ∧ (h93 90 20) = (h 90 20) ∧ (h93 90 22) = (h 90 22) ∧ (h93 90 25) = (h 90 25) ∧ (h93 90 26) = (h 90 26) ∧ (h93 90 28) = (h 90 28) ∧ (h93 90 29) = (h 90 29) ∧ (h93 90 30) = (h 90 30) ∧ (h93 90 34) = (h 90 34) ∧ ((h 90 7) + 1) ≤ (h93 90 7) ∧ (h93 90 7) ≤ n ∧ (h 90 8) ≤ (h93 90 8) ∧ ((h93 90 8) = 0 → (0 : Int) ≤ v75 ∧ v75 ≤ (9 : Int)) ∧ (0 < (h93 90 8) → v75 = 0) ∧ ((h 90 7) + 1) < (h93 90 7) + (h93 90 8) := f74
            clear f74
            refine ov_goto (tgt := 106) d_233_96 (by decide) ?_
            refine ov_iast d_233_106 (zb_96 I94) (zs_96 I94) (by omega) ?_
            have I112 := ua_96 (k := (342 + v2)) (x := v75) I94 (by refine ⟨?_, ?_, ?_, ?_, ?_, ?_, ?_, ?_, ?_, ?_, ?_, ?_, ?_, ?_, ?_, ?_, ?_, ?_, ?_, ?_, ?_, ?_, ?_, ?_, ?_, ?_, ?_, ?_, ?_⟩ <;> omega)
            have R113 : ov_RD (h 96) (h 97) (h 98) (h 90 13) (h93 96) (h93 97) (h93 98) (h 90 13) := by rw [show h93 96 = h 96 from E100, show h93 97 = h 97 from E101, show h93 98 = h 98 from E102]; exact ov_RD_refl _ _ _ _
            have R114 : ov_RD (h 96) (h 97) (h 98) (h 90 13) ((ov_up h93 96 (342 + v2) v75) 96) ((ov_up h93 96 (342 + v2) v75) 97) ((ov_up h93 96 (342 + v2) v75) 98) (h 90 13) := by rw [ov_up_row]; exact ov_RD_w R113 (t96_348 I94).2 (by omega)
            have qo1 : ((342 + v2)) = 342 → ((ov_up h93 96 (342 + v2) v75) 96 342) = v75 := fun e => by rw [ov_up_row]; unfold ov_rs; rw [if_pos e.symm]
            have qo2 : ¬ ((342 + v2)) = 342 → ((ov_up h93 96 (342 + v2) v75) 96 342) = h93 96 342 := fun e => by rw [ov_up_j (fun q => e q.symm)]; try rfl
            have lt115 : ((ov_up h93 96 (342 + v2) v75) 96 340) = h93 96 340 := by try rw [ov_up_j (by omega)]; try rfl
            have lt116 : h93 96 340 = h 96 340 := congrFun E100 340
            have lt117 : ((ov_up h93 96 (342 + v2) v75) 96 341) = h93 96 341 := by try rw [ov_up_j (by omega)]; try rfl
            have lt118 : h93 96 341 = h 96 341 := congrFun E100 341
            have lt119 : ((ov_up h93 96 (342 + v2) v75) 96 348) = h93 96 348 := by try rw [ov_up_j (by omega)]; try rfl
            have lt120 : h93 96 348 = h 96 348 := congrFun E100 348
            have lt121 : ((ov_up h93 96 (342 + v2) v75) 96 349) = h93 96 349 := by try rw [ov_up_j (by omega)]; try rfl
            have lt122 : h93 96 349 = h 96 349 := congrFun E100 349
            have qo3 : h93 96 342 = h 96 342 := congrFun E100 342
            have cf123 : h93 96 340 = h 96 340 := congrFun E100 340
            have cf124 : h93 96 341 = h 96 341 := congrFun E100 341
            have cf125 : h93 96 342 = h 96 342 := congrFun E100 342
            have cf126 : h93 96 349 = h 96 349 := congrFun E100 349
            exact ov_retv (st := []) d_233_107 rfl ⟨rfl, I112, (by show (h93 90 2) = (h 90 2) ∧ (h93 90 13) = (h 90 13) ∧ (h93 90 20) = (h 90 20) ∧ (h93 90 22) = (h 90 22) ∧ (h93 90 25) = (h 90 25) ∧ (h93 90 26) = (h 90 26) ∧ (h93 90 28) = (h 90 28) ∧ (h93 90 29) = (h 90 29) ∧ (h93 90 30) = (h 90 30) ∧ (h93 90 34) = (h 90 34) ∧ (h 90 7) ≤ (h93 90 7) ∧ (h93 90 7) ≤ n ∧ (h 90 13) ≤ (h93 90 13) ∧ (h93 90 13) - (h 90 13) ≤ (h93 90 7) - (h 90 7) ∧ ((ov_up h93 96 (342 + v2) v75) 96 340) = (h 96 340) ∧ ((ov_up h93 96 (342 + v2) v75) 96 341) = (h 96 341) ∧ ((h93 90 8) = 0 → 1 ≤ (h 96 342) → 1 ≤ ((ov_up h93 96 (342 + v2) v75) 96 342)) ∧ (1 ≤ (h 96 349) → 1 ≤ ((ov_up h93 96 (342 + v2) v75) 96 349)); omega), E95, E96, E97, E98, E99, E101, E102, E103, E104, E105, E106, E107, E108, E109, E110, R114.1, R114.2.1, (fun _ w => by show ov_CS ((ov_up h93 96 (342 + v2) v75) 96) ((ov_up h93 96 (342 + v2) v75) 97) ((ov_up h93 96 (342 + v2) v75) 98) (h93 90 13); rw [show (h93 90 13) = h 90 13 by omega]; exact R114.2.2 w)⟩
        · skip
          refine ov_blk (ls2 := [(0, ov_r 90), (1, ov_i v2)]) (st2 := [ov_i 1, ov_i (342 + v2), ov_r 96]) (pc2 := 81) b_233_80_1 rfl rfl ?_
          refine ov_goto (tgt := 106) d_233_81 (by decide) ?_
          refine ov_iast d_233_106 (zb_96 I18) (zs_96 I18) (by omega) ?_
          have I127 := ua_96 (k := (342 + v2)) (x := 1) I18 (by refine ⟨?_, ?_, ?_, ?_, ?_, ?_, ?_, ?_, ?_, ?_, ?_, ?_, ?_, ?_, ?_, ?_, ?_, ?_, ?_, ?_, ?_, ?_, ?_, ?_, ?_, ?_, ?_, ?_, ?_⟩ <;> omega)
          have R128 : ov_RD (h 96) (h 97) (h 98) (h 90 13) ((ov_up (ov_up h 90 15 w15) 90 7 ((h 90 7) + 1)) 96) ((ov_up (ov_up h 90 15 w15) 90 7 ((h 90 7) + 1)) 97) ((ov_up (ov_up h 90 15 w15) 90 7 ((h 90 7) + 1)) 98) (h 90 13) := by exact ov_RD_refl _ _ _ _
          have R129 : ov_RD (h 96) (h 97) (h 98) (h 90 13) ((ov_up (ov_up (ov_up h 90 15 w15) 90 7 ((h 90 7) + 1)) 96 (342 + v2) 1) 96) ((ov_up (ov_up (ov_up h 90 15 w15) 90 7 ((h 90 7) + 1)) 96 (342 + v2) 1) 97) ((ov_up (ov_up (ov_up h 90 15 w15) 90 7 ((h 90 7) + 1)) 96 (342 + v2) 1) 98) (h 90 13) := by rw [ov_up_row]; exact ov_RD_w R128 (t96_348 I18).2 (by omega)
          have qo1 : ((342 + v2)) = 342 → ((ov_up (ov_up (ov_up h 90 15 w15) 90 7 ((h 90 7) + 1)) 96 (342 + v2) 1) 96 342) = 1 := fun e => by rw [ov_up_row]; unfold ov_rs; rw [if_pos e.symm]
          have qo2 : ¬ ((342 + v2)) = 342 → ((ov_up (ov_up (ov_up h 90 15 w15) 90 7 ((h 90 7) + 1)) 96 (342 + v2) 1) 96 342) = h 96 342 := fun e => by rw [ov_up_j (fun q => e q.symm)]; try rfl
          have lt130 : ((ov_up (ov_up (ov_up h 90 15 w15) 90 7 ((h 90 7) + 1)) 96 (342 + v2) 1) 96 340) = h 96 340 := by try rw [ov_up_j (by omega)]; try show (ov_up h 90 15 w15) 96 340 = _; try show h 96 340 = _; try rfl
          have lt131 : ((ov_up (ov_up (ov_up h 90 15 w15) 90 7 ((h 90 7) + 1)) 96 (342 + v2) 1) 96 341) = h 96 341 := by try rw [ov_up_j (by omega)]; try show (ov_up h 90 15 w15) 96 341 = _; try show h 96 341 = _; try rfl
          have lt132 : ((ov_up (ov_up (ov_up h 90 15 w15) 90 7 ((h 90 7) + 1)) 96 (342 + v2) 1) 96 348) = h 96 348 := by try rw [ov_up_j (by omega)]; try show (ov_up h 90 15 w15) 96 348 = _; try show h 96 348 = _; try rfl
          have lt133 : ((ov_up (ov_up (ov_up h 90 15 w15) 90 7 ((h 90 7) + 1)) 96 (342 + v2) 1) 96 349) = h 96 349 := by try rw [ov_up_j (by omega)]; try show (ov_up h 90 15 w15) 96 349 = _; try show h 96 349 = _; try rfl
          exact ov_retv (st := []) d_233_107 rfl ⟨rfl, I127, ⟨rfl, rfl, rfl, rfl, rfl, rfl, rfl, rfl, rfl, rfl, (by show (h 90 7) ≤ ((h 90 7) + 1) ∧ ((h 90 7) + 1) ≤ n ∧ (h 90 13) ≤ (h 90 13) ∧ (h 90 13) - (h 90 13) ≤ ((h 90 7) + 1) - (h 90 7) ∧ ((ov_up (ov_up (ov_up h 90 15 w15) 90 7 ((h 90 7) + 1)) 96 (342 + v2) 1) 96 340) = (h 96 340) ∧ ((ov_up (ov_up (ov_up h 90 15 w15) 90 7 ((h 90 7) + 1)) 96 (342 + v2) 1) 96 341) = (h 96 341) ∧ ((h 90 8) = 0 → 1 ≤ (h 96 342) → 1 ≤ ((ov_up (ov_up (ov_up h 90 15 w15) 90 7 ((h 90 7) + 1)) 96 (342 + v2) 1) 96 342)) ∧ (1 ≤ (h 96 349) → 1 ≤ ((ov_up (ov_up (ov_up h 90 15 w15) 90 7 ((h 90 7) + 1)) 96 (342 + v2) 1) 96 349)); omega)⟩, rfl, rfl, rfl, rfl, rfl, rfl, rfl, rfl, rfl, rfl, rfl, rfl, rfl, rfl, rfl, R129.1, R129.2.1, (fun _ w => by show ov_CS ((ov_up (ov_up (ov_up h 90 15 w15) 90 7 ((h 90 7) + 1)) 96 (342 + v2) 1) 96) ((ov_up (ov_up (ov_up h 90 15 w15) 90 7 ((h 90 7) + 1)) 96 (342 + v2) 1) 97) ((ov_up (ov_up (ov_up h 90 15 w15) 90 7 ((h 90 7) + 1)) 96 (342 + v2) 1) 98) (h 90 13); rw [show (h 90 13) = h 90 13 by omega]; exact R129.2.2 w)⟩
      · skip
        have R134 : ov_RD (h 96) (h 97) (h 98) (h 90 13) (h 96) (h 97) (h 98) (h 90 13) := by exact ov_RD_refl _ _ _ _
        exact ov_retv (st := []) d_233_43 rfl ⟨rfl, I, ⟨rfl, rfl, rfl, rfl, rfl, rfl, rfl, rfl, rfl, rfl, (by show (h 90 7) ≤ (h 90 7) ∧ (h 90 7) ≤ n ∧ (h 90 13) ≤ (h 90 13) ∧ (h 90 13) - (h 90 13) ≤ (h 90 7) - (h 90 7) ∧ (h 96 340) = (h 96 340) ∧ (h 96 341) = (h 96 341) ∧ ((h 90 8) = 0 → 1 ≤ (h 96 342) → 1 ≤ (h 96 342)) ∧ (1 ≤ (h 96 349) → 1 ≤ (h 96 349)); omega)⟩, rfl, rfl, rfl, rfl, rfl, rfl, rfl, rfl, rfl, rfl, rfl, rfl, rfl, rfl, rfl, R134.1, R134.2.1, (fun _ w => by show ov_CS (h 96) (h 97) (h 98) (h 90 13); rw [show (h 90 13) = h 90 13 by omega]; exact R134.2.2 w)⟩
    · skip
      refine ov_blk (ls2 := [(0, ov_r 90), (1, ov_i v2)]) (st2 := [ov_i 3, ov_r 90]) (pc2 := 33) b_233_31_2 rfl rfl ?_
      refine ov_cV (as := [ov_i 3]) (st := []) (d2 := d - 1) d_233_33 lk_Mo_186 rfl (Nat.le_of_ble_eq_true rfl) (c := 1) (zb_90 I) (zs_90 I) ⟨by decide, rfl⟩ (by omega) (c_Mo_wrong_90 (d - 1) (by omega) U I 3 (by omega) (by omega)) ?_
      rintro _ z152 h153 ⟨rfl, I154, f135, e136, e137, e138, e139, e140, e141, e142, e143, e144, e145, e146, e147, e148, e149, e150, e151⟩
      have E155 : h153 91 = h 91 := e136
      have E156 : h153 92 = h 92 := e137
      have E157 : h153 93 = h 93 := e138
      have E158 : h153 94 = h 94 := e139
      have E159 : h153 95 = h 95 := e140
      have E160 : h153 96 = h 96 := e141
      have E161 : h153 97 = h 97 := e142
      have E162 : h153 98 = h 98 := e143
      have E163 : h153 99 = h 99 := e144
      have E164 : h153 100 = h 100 := e145
      have E165 : h153 103 = h 103 := e146
      have E166 : h153 104 = h 104 := e147
      have E167 : h153 105 = h 105 := e148
      have E168 : h153 106 = h 106 := e149
      have E169 : h153 109 = h 109 := e150
      have E170 : h153 114 = h 114 := e151
      show ov_R u d ov_m233 36 [(0, ov_r 90), (1, ov_i v2)] [] z152 h153 (P_Mo_readOnce_90 F z h n)
      have f171 : (h153 90 2) = (h 90 2) ∧ (h153 90 7) = (h 90 7) ∧ (h153 90 13) = (h 90 13) ∧ (h153 90 20) = (h 90 20) ∧ (h153 90 22) = (h 90 22) ∧ (h153 90 25) = (h 90 25) ∧ (h153 90 26) = (h 90 26) ∧ (h153 90 28) = (h 90 28) ∧ (h153 90 29) = (h 90 29) ∧ (h153 90 30) = (h 90 30) ∧ (h153 90 34) = (h 90 34) ∧ 0 < (h153 90 8) ∧ (h 90 8) ≤ (h153 90 8) := f135
      clear f135
      refine ov_blk (ls2 := [(0, ov_r 90), (1, ov_i v2)]) (st2 := [ov_r 90]) (pc2 := 37) b_233_36_1 rfl rfl ?_
      refine ov_getf (v := ov_i (h153 90 8)) d_233_37 fl_Mo_180 (zb_90 I154) (zs_90 I154) rfl ?_
      have g172 := rg_90_8 I154
      refine ov_ifle (tgt := 44) d_233_40 (by decide) (by omega) (fun c173 => ?_) (fun c173 => ?_)
      · omega
      · skip
        have qo3 : h153 96 342 = h 96 342 := congrFun E160 342
        have cf174 : h153 96 340 = h 96 340 := congrFun E160 340
        have cf175 : h153 96 341 = h 96 341 := congrFun E160 341
        have cf176 : h153 96 342 = h 96 342 := congrFun E160 342
        have cf177 : h153 96 349 = h 96 349 := congrFun E160 349
        have R178 : ov_RD (h 96) (h 97) (h 98) (h 90 13) (h153 96) (h153 97) (h153 98) (h 90 13) := by rw [show h153 96 = h 96 from E160, show h153 97 = h 97 from E161, show h153 98 = h 98 from E162]; exact ov_RD_refl _ _ _ _
        exact ov_retv (st := []) d_233_43 rfl ⟨rfl, I154, (by show (h153 90 2) = (h 90 2) ∧ (h153 90 13) = (h 90 13) ∧ (h153 90 20) = (h 90 20) ∧ (h153 90 22) = (h 90 22) ∧ (h153 90 25) = (h 90 25) ∧ (h153 90 26) = (h 90 26) ∧ (h153 90 28) = (h 90 28) ∧ (h153 90 29) = (h 90 29) ∧ (h153 90 30) = (h 90 30) ∧ (h153 90 34) = (h 90 34) ∧ (h 90 7) ≤ (h153 90 7) ∧ (h153 90 7) ≤ n ∧ (h 90 13) ≤ (h153 90 13) ∧ (h153 90 13) - (h 90 13) ≤ (h153 90 7) - (h 90 7) ∧ (h153 96 340) = (h 96 340) ∧ (h153 96 341) = (h 96 341) ∧ ((h153 90 8) = 0 → 1 ≤ (h 96 342) → 1 ≤ (h153 96 342)) ∧ (1 ≤ (h 96 349) → 1 ≤ (h153 96 349)); omega), E155, E156, E157, E158, E159, E161, E162, E163, E164, E165, E166, E167, E168, E169, E170, R178.1, R178.2.1, (fun _ w => by show ov_CS (h153 96) (h153 97) (h153 98) (h153 90 13); rw [show (h153 90 13) = h 90 13 by omega]; exact R178.2.2 w)⟩
  · skip
    refine ov_blk (ls2 := [(0, ov_r 90), (1, ov_i v2)]) (st2 := [ov_i 1, ov_r 90]) (pc2 := 13) b_233_11_2 rfl rfl ?_
    refine ov_cV (as := [ov_i 1]) (st := []) (d2 := d - 1) d_233_13 lk_Mo_186 rfl (Nat.le_of_ble_eq_true rfl) (c := 1) (zb_90 I) (zs_90 I) ⟨by decide, rfl⟩ (by omega) (c_Mo_wrong_90 (d - 1) (by omega) U I 1 (by omega) (by omega)) ?_
    rintro _ z196 h197 ⟨rfl, I198, f179, e180, e181, e182, e183, e184, e185, e186, e187, e188, e189, e190, e191, e192, e193, e194, e195⟩
    have E199 : h197 91 = h 91 := e180
    have E200 : h197 92 = h 92 := e181
    have E201 : h197 93 = h 93 := e182
    have E202 : h197 94 = h 94 := e183
    have E203 : h197 95 = h 95 := e184
    have E204 : h197 96 = h 96 := e185
    have E205 : h197 97 = h 97 := e186
    have E206 : h197 98 = h 98 := e187
    have E207 : h197 99 = h 99 := e188
    have E208 : h197 100 = h 100 := e189
    have E209 : h197 103 = h 103 := e190
    have E210 : h197 104 = h 104 := e191
    have E211 : h197 105 = h 105 := e192
    have E212 : h197 106 = h 106 := e193
    have E213 : h197 109 = h 109 := e194
    have E214 : h197 114 = h 114 := e195
    show ov_R u d ov_m233 16 [(0, ov_r 90), (1, ov_i v2)] [] z196 h197 (P_Mo_readOnce_90 F z h n)
    have f215 : (h197 90 2) = (h 90 2) ∧ (h197 90 7) = (h 90 7) ∧ (h197 90 13) = (h 90 13) ∧ (h197 90 20) = (h 90 20) ∧ (h197 90 22) = (h 90 22) ∧ (h197 90 25) = (h 90 25) ∧ (h197 90 26) = (h 90 26) ∧ (h197 90 28) = (h 90 28) ∧ (h197 90 29) = (h 90 29) ∧ (h197 90 30) = (h 90 30) ∧ (h197 90 34) = (h 90 34) ∧ 0 < (h197 90 8) ∧ (h 90 8) ≤ (h197 90 8) := f179
    clear f179
    refine ov_goto (tgt := 36) d_233_16 (by decide) ?_
    refine ov_blk (ls2 := [(0, ov_r 90), (1, ov_i v2)]) (st2 := [ov_r 90]) (pc2 := 37) b_233_36_1 rfl rfl ?_
    refine ov_getf (v := ov_i (h197 90 8)) d_233_37 fl_Mo_180 (zb_90 I198) (zs_90 I198) rfl ?_
    have g216 := rg_90_8 I198
    refine ov_ifle (tgt := 44) d_233_40 (by decide) (by omega) (fun c217 => ?_) (fun c217 => ?_)
    · omega
    · skip
      have qo3 : h197 96 342 = h 96 342 := congrFun E204 342
      have cf218 : h197 96 340 = h 96 340 := congrFun E204 340
      have cf219 : h197 96 341 = h 96 341 := congrFun E204 341
      have cf220 : h197 96 342 = h 96 342 := congrFun E204 342
      have cf221 : h197 96 349 = h 96 349 := congrFun E204 349
      have R222 : ov_RD (h 96) (h 97) (h 98) (h 90 13) (h197 96) (h197 97) (h197 98) (h 90 13) := by rw [show h197 96 = h 96 from E204, show h197 97 = h 97 from E205, show h197 98 = h 98 from E206]; exact ov_RD_refl _ _ _ _
      exact ov_retv (st := []) d_233_43 rfl ⟨rfl, I198, (by show (h197 90 2) = (h 90 2) ∧ (h197 90 13) = (h 90 13) ∧ (h197 90 20) = (h 90 20) ∧ (h197 90 22) = (h 90 22) ∧ (h197 90 25) = (h 90 25) ∧ (h197 90 26) = (h 90 26) ∧ (h197 90 28) = (h 90 28) ∧ (h197 90 29) = (h 90 29) ∧ (h197 90 30) = (h 90 30) ∧ (h197 90 34) = (h 90 34) ∧ (h 90 7) ≤ (h197 90 7) ∧ (h197 90 7) ≤ n ∧ (h 90 13) ≤ (h197 90 13) ∧ (h197 90 13) - (h 90 13) ≤ (h197 90 7) - (h 90 7) ∧ (h197 96 340) = (h 96 340) ∧ (h197 96 341) = (h 96 341) ∧ ((h197 90 8) = 0 → 1 ≤ (h 96 342) → 1 ≤ (h197 96 342)) ∧ (1 ≤ (h 96 349) → 1 ≤ (h197 96 349)); omega), E199, E200, E201, E202, E203, E205, E206, E207, E208, E209, E210, E211, E212, E213, E214, R222.1, R222.2.1, (fun _ w => by show ov_CS (h197 96) (h197 97) (h197 98) (h197 90 13); rw [show (h197 90 13) = h 90 13 by omega]; exact R222.2.2 w)⟩

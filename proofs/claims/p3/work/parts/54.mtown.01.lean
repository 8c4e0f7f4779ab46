abbrev P_Mo_readOnce_90 (F : ov_H × ov_Z) (z : ov_Z) (h : ov_H) (n : Int) : Option ov_V → ov_Z → ov_H → Prop := fun r0 z' h' => r0 = none ∧ ov_N F z' h' ∧ ((h' 90 2) = (h 90 2) ∧ (h' 90 13) = (h 90 13) ∧ (h' 90 20) = (h 90 20) ∧ (h' 90 22) = (h 90 22) ∧ (h' 90 25) = (h 90 25) ∧ (h' 90 26) = (h 90 26) ∧ (h' 90 28) = (h 90 28) ∧ (h' 90 29) = (h 90 29) ∧ (h' 90 30) = (h 90 30) ∧ (h' 90 34) = (h 90 34) ∧ (h 90 7) ≤ (h' 90 7) ∧ (h' 90 7) ≤ n ∧ (h 90 13) ≤ (h' 90 13) ∧ (h' 90 13) - (h 90 13) ≤ (h' 90 7) - (h 90 7) ∧ (h' 96 340) = (h 96 340) ∧ (h' 96 341) = (h 96 341) ∧ ((h' 90 8) = 0 → 1 ≤ (h 96 342) → 1 ≤ (h' 96 342)) ∧ (1 ≤ (h 96 349) → 1 ≤ (h' 96 349))) ∧ h' 91 = h 91 ∧ h' 92 = h 92 ∧ h' 93 = h 93 ∧ h' 94 = h 94 ∧ h' 95 = h 95 ∧ h' 97 = h 97 ∧ h' 98 = h 98 ∧ h' 99 = h 99 ∧ h' 100 = h 100 ∧ h' 103 = h 103 ∧ h' 105 = h 105 ∧ h' 106 = h 106 ∧ h' 109 = h 109 ∧ h' 114 = h 114 ∧ (ov_MK (h 96) (h 97) (h 98) (h' 96) (h' 97) (h' 98)) ∧ (ov_WS (h 96) → ov_WS (h' 96)) ∧ ((h' 90 8) = 0 → ov_CS (h 96) (h 97) (h 98) (h 90 13) → ov_CS (h' 96) (h' 97) (h' 98) (h' 90 13))
set_option maxHeartbeats 4000000 in
theorem c_Mo_readOnce_90 {u : ov_U} {F : ov_H × ov_Z} (n : Int) {z : ov_Z} {h : ov_H} (d : Nat) (hd : 2 ≤ d) (U : ov_cap u) (I : ov_N F z h) (p0 : 0 ≤ n ∧ n ≤ 1000 ∧ (h 92 (n)) = 0 ∧ (h 90 7) ≤ n) (p1 : (h 90 13) ≤ (h 90 7)) (p2 : (h 90 8) = 0) (p3 : (h 90 7) < n) : ov_T u d ov_m233 [ov_r 90] z h (P_Mo_readOnce_90 F z h n) := by
  refine ov_en rfl (Nat.le_of_ble_eq_true rfl) ?_
  show ov_R u d ov_m233 0 [(0, ov_r 90)] [] z h (P_Mo_readOnce_90 F z h n)
  refine ov_blk (ls2 := [(0, ov_r 90)]) (st2 := [ov_i 5, ov_i 4, ov_r 90]) (pc2 := 3) b_233_0_3 rfl rfl ?_
  refine ov_cV (as := [ov_i 4, ov_i 5]) (st := []) (d2 := d - 1) d_233_3 lk_Mo_202 rfl (Nat.le_of_ble_eq_true rfl) (c := 1) (zb_90 I) (zs_90 I) ⟨by decide, rfl⟩ (by omega) (c_Mo_wordHere_90 n (d - 1) (by omega) U I 4 5 (by omega) (by omega) (by show 0 ≤ n ∧ n ≤ 1000 ∧ (h 92 (n)) = 0 ∧ (h 90 7) ≤ n; omega) (by omega)) ?_
  rintro _ _ _ ⟨v2, rfl, rfl, rfl, f1⟩
  show ov_R u d ov_m233 6 [(0, ov_r 90)] [ov_i v2] z h (P_Mo_readOnce_90 F z h n)
  have f3 : -1 ≤ v2 ∧ v2 < (5 : Int) ∧ (0 ≤ v2 → (h 90 7) < n ∧ (h 90 8) = 0) := f1
  clear f1
  refine ov_blk (ls2 := [(0, ov_r 90), (1, ov_i v2)]) (st2 := [ov_i v2]) (pc2 := 8) b_233_6_2 rfl rfl ?_
  refine ov_ifge (tgt := 19) d_233_8 (by decide) (by omega) (fun c4 => ?_) (fun c4 => ?_)
  · skip
    refine ov_blk (ls2 := [(0, ov_r 90), (1, ov_i v2)]) (st2 := [ov_r 90]) (pc2 := 20) b_233_19_1 rfl rfl ?_
    refine ov_getf (v := ov_i (h 90 15)) d_233_20 fl_Mo_211 (zb_90 I) (zs_90 I) rfl ?_
    have g5 := rg_90_15 I
    refine ov_blk (ls2 := [(0, ov_r 90), (1, ov_i v2)]) (st2 := [ov_i 1, ov_i (ov_and (ov_shr (h 90 15) v2) 1)]) (pc2 := 28) b_233_23_5 rfl rfl ?_
    have g6 := ov_shrg (h 90 15) v2
    have g7 := ov_andg (ov_shr (h 90 15) v2) 1
    have g8 := ov_and1 (ov_shr (h 90 15) v2)
    refine ov_icne (tgt := 36) d_233_28 (by decide) (by omega) (by omega) (fun c9 => ?_) (fun c9 => ?_)
    · skip
      refine ov_blk (ls2 := [(0, ov_r 90), (1, ov_i v2)]) (st2 := [ov_r 90]) (pc2 := 37) b_233_36_1 rfl rfl ?_
      refine ov_getf (v := ov_i (h 90 8)) d_233_37 fl_Mo_180 (zb_90 I) (zs_90 I) rfl ?_
      have g10 := rg_90_8 I
      refine ov_ifle (tgt := 44) d_233_40 (by decide) (by omega) (fun c11 => ?_) (fun c11 => ?_)
      · skip
        refine ov_blk (ls2 := [(0, ov_r 90), (1, ov_i v2)]) (st2 := [ov_r 90, ov_r 90]) (pc2 := 46) b_233_44_2 rfl rfl ?_
        refine ov_getf (v := ov_i (h 90 15)) d_233_46 fl_Mo_211 (zb_90 I) (zs_90 I) rfl ?_
        refine ov_blk (ls2 := [(0, ov_r 90), (1, ov_i v2)]) (st2 := [ov_i (ov_or (h 90 15) (ov_shl 1 v2)), ov_r 90]) (pc2 := 53) b_233_49_4 rfl rfl ?_
        have g13 := ov_shlg 1 v2
        have g14 := ov_org (h 90 15) (ov_shl 1 v2)
        refine ov_havw (fun w15 gw15 qw15 => ?_)
        refine ov_putf (x := w15) d_233_53 fl_Mo_211 (zb_90 I) (zs_90 I) rfl nk_0 rfl ?_
        have I16 := up_90_15 (x := w15) I (by omega)
        refine ov_blk (ls2 := [(0, ov_r 90), (1, ov_i v2)]) (st2 := [ov_r 90, ov_r 90]) (pc2 := 58) b_233_56_2 rfl rfl ?_
        refine ov_getf (v := ov_i (h 90 7)) d_233_58 fl_Mo_177 (zb_90 I16) (zs_90 I16) rfl ?_
        have g17 := rg_90_7 I
        refine ov_blk (ls2 := [(0, ov_r 90), (1, ov_i v2)]) (st2 := [ov_i ((h 90 7) + 1), ov_r 90]) (pc2 := 63) b_233_61_2 rfl rfl ?_
        refine ov_putf (x := ((h 90 7) + 1)) d_233_63 fl_Mo_177 (zb_90 I16) (zs_90 I16) rfl nk_0 rfl ?_
        have I18 := up_90_7 (x := ((h 90 7) + 1)) I16 (by omega)
        refine ov_blk (ls2 := [(0, ov_r 90), (1, ov_i v2)]) (st2 := [ov_r 90]) (pc2 := 67) b_233_66_1 rfl rfl ?_
        refine ov_getf (v := ov_r 96) d_233_67 fl_Mo_81 (zb_90 I18) (zs_90 I18) (congrArg ov_r (rg_90_10 I18)) ?_
        refine ov_blk (ls2 := [(0, ov_r 90), (1, ov_i v2)]) (st2 := [ov_i 4, ov_i v2, ov_i (342 + v2), ov_r 96]) (pc2 := 77) b_233_70_5 rfl rfl ?_
        refine ov_icne (tgt := 84) d_233_77 (by decide) (by omega) (by omega) (fun c19 => ?_) (fun c19 => ?_)
        · skip
          refine ov_blk (ls2 := [(0, ov_r 90), (1, ov_i v2)]) (st2 := [ov_i 3, ov_i v2, ov_i (342 + v2), ov_r 96]) (pc2 := 86) b_233_84_2 rfl rfl ?_
          refine ov_icne (tgt := 99) d_233_86 (by decide) (by omega) (by omega) (fun c20 => ?_) (fun c20 => ?_)
          · skip
            refine ov_blk (ls2 := [(0, ov_r 90), (1, ov_i v2)]) (st2 := [ov_i 30, ov_i 1, ov_r 90, ov_i (342 + v2), ov_r 96]) (pc2 := 103) b_233_99_3 rfl rfl ?_
            refine ov_cV (as := [ov_i 1, ov_i 30]) (st := [ov_i (342 + v2), ov_r 96]) (d2 := d - 1) d_233_103 lk_Mo_198 rfl (Nat.le_of_ble_eq_true rfl) (c := 1) (zb_90 I18) (zs_90 I18) ⟨by decide, rfl⟩ (by omega) (c_Mo_takeNumber_90 n (d - 1) (by omega) U I18 1 30 (by omega) (by omega) (by show 0 ≤ n ∧ n ≤ 1000 ∧ (h 92 (n)) = 0 ∧ ((h 90 7) + 1) ≤ n; omega)) ?_
            rintro _ z38 h39 ⟨v22, rfl, I40, f21, e23, e24, e25, e26, e27, e28, e29, e30, e31, e32, e33, e34, e35, e36, e37⟩
            have E41 : h39 91 = h 91 := e23
            have E42 : h39 92 = h 92 := e24
            have E43 : h39 93 = h 93 := e25
            have E44 : h39 94 = h 94 := e26
            have E45 : h39 95 = h 95 := e27
            have E46 : h39 96 = h 96 := e28
            have E47 : h39 97 = h 97 := e29
            have E48 : h39 98 = h 98 := e30
            have E49 : h39 99 = h 99 := e31
            have E50 : h39 100 = h 100 := e32
            have E51 : h39 103 = h 103 := e33
            have E52 : h39 105 = h 105 := e34
            have E53 : h39 106 = h 106 := e35
            have E54 : h39 109 = h 109 := e36
            have E55 : h39 114 = h 114 := e37
            show ov_R u d ov_m233 106 [(0, ov_r 90), (1, ov_i v2)] [ov_i v22, ov_i (342 + v2), ov_r 96] z38 h39 (P_Mo_readOnce_90 F z h n)
            have f56 : (h39 90 2) = (h 90 2) ∧ (h39 90 13) = (h 90 13) ∧ (h39 90 20) = (h 90 20) ∧ (h39 90 22) = (h 90 22) ∧ (h39 90 25) = (h 90 25) ∧ (h39 90 26) = (h 90 26) ∧ (h39 90 28) = (h 90 28) ∧ (h39 90 29) = (h 90 29) ∧ (h39 90 30) = (h 90 30) ∧ (h39 90 34) = (h 90 34) ∧ ((h 90 7) + 1) ≤ (h39 90 7) ∧ (h39 90 7) ≤ n ∧ (h 90 8) ≤ (h39 90 8) ∧ ((h39 90 8) = 0 → (1 : Int) ≤ v22 ∧ v22 ≤ (30 : Int)) ∧ (0 < (h39 90 8) → v22 = 0) ∧ ((h 90 7) + 1) < (h39 90 7) + (h39 90 8) := f21
            clear f21
            refine ov_iast d_233_106 (zb_96 I40) (zs_96 I40) (by omega) ?_
            have I57 := ua_96 (k := (342 + v2)) (x := v22) I40 (by refine ⟨?_, ?_, ?_, ?_, ?_, ?_, ?_, ?_, ?_, ?_, ?_, ?_, ?_, ?_, ?_, ?_, ?_, ?_, ?_, ?_, ?_, ?_, ?_, ?_, ?_, ?_, ?_, ?_, ?_⟩ <;> omega)
            have R58 : ov_RD (h 96) (h 97) (h 98) (h 90 13) (h39 96) (h39 97) (h39 98) (h 90 13) := by rw [show h39 96 = h 96 from E46, show h39 97 = h 97 from E47, show h39 98 = h 98 from E48]; exact ov_RD_refl _ _ _ _
            have R59 : ov_RD (h 96) (h 97) (h 98) (h 90 13) ((ov_up h39 96 (342 + v2) v22) 96) ((ov_up h39 96 (342 + v2) v22) 97) ((ov_up h39 96 (342 + v2) v22) 98) (h 90 13) := by rw [ov_up_row]; exact ov_RD_w R58 (t96_348 I40).2 (by omega)
            have qo1 : ((342 + v2)) = 342 → ((ov_up h39 96 (342 + v2) v22) 96 342) = v22 := fun e => by rw [ov_up_row]; unfold ov_rs; rw [if_pos e.symm]
            have qo2 : ¬ ((342 + v2)) = 342 → ((ov_up h39 96 (342 + v2) v22) 96 342) = h39 96 342 := fun e => by rw [ov_up_j (fun q => e q.symm)]; try rfl
            have lt60 : ((ov_up h39 96 (342 + v2) v22) 96 340) = h39 96 340 := by try rw [ov_up_j (by omega)]; try rfl
            have lt61 : h39 96 340 = h 96 340 := congrFun E46 340
            have lt62 : ((ov_up h39 96 (342 + v2) v22) 96 341) = h39 96 341 := by try rw [ov_up_j (by omega)]; try rfl
            have lt63 : h39 96 341 = h 96 341 := congrFun E46 341
            have lt64 : ((ov_up h39 96 (342 + v2) v22) 96 348) = h39 96 348 := by try rw [ov_up_j (by omega)]; try rfl
            have lt65 : h39 96 348 = h 96 348 := congrFun E46 348
            have lt66 : ((ov_up h39 96 (342 + v2) v22) 96 349) = h39 96 349 := by try rw [ov_up_j (by omega)]; try rfl
            have lt67 : h39 96 349 = h 96 349 := congrFun E46 349
            have qo3 : h39 96 342 = h 96 342 := congrFun E46 342
            have cf68 : h39 96 340 = h 96 340 := congrFun E46 340
            have cf69 : h39 96 341 = h 96 341 := congrFun E46 341
            have cf70 : h39 96 342 = h 96 342 := congrFun E46 342
            have cf71 : h39 96 349 = h 96 349 := congrFun E46 349
            exact ov_retv (st := []) d_233_107 rfl ⟨rfl, I57, (by show (h39 90 2) = (h 90 2) ∧ (h39 90 13) = (h 90 13) ∧ (h39 90 20) = (h 90 20) ∧ (h39 90 22) = (h 90 22) ∧ (h39 90 25) = (h 90 25) ∧ (h39 90 26) = (h 90 26) ∧ (h39 90 28) = (h 90 28) ∧ (h39 90 29) = (h 90 29) ∧ (h39 90 30) = (h 90 30) ∧ (h39 90 34) = (h 90 34) ∧ (h 90 7) ≤ (h39 90 7) ∧ (h39 90 7) ≤ n ∧ (h 90 13) ≤ (h39 90 13) ∧ (h39 90 13) - (h 90 13) ≤ (h39 90 7) - (h 90 7) ∧ ((ov_up h39 96 (342 + v2) v22) 96 340) = (h 96 340) ∧ ((ov_up h39 96 (342 + v2) v22) 96 341) = (h 96 341) ∧ ((h39 90 8) = 0 → 1 ≤ (h 96 342) → 1 ≤ ((ov_up h39 96 (342 + v2) v22) 96 342)) ∧ (1 ≤ (h 96 349) → 1 ≤ ((ov_up h39 96 (342 + v2) v22) 96 349)); omega), E41, E42, E43, E44, E45, E47, E48, E49, E50, E51, E52, E53, E54, E55, R59.1, R59.2.1, (fun _ w => by show ov_CS ((ov_up h39 96 (342 + v2) v22) 96) ((ov_up h39 96 (342 + v2) v22) 97) ((ov_up h39 96 (342 + v2) v22) 98) (h39 90 13); rw [show (h39 90 13) = h 90 13 by omega]; exact R59.2.2 w)⟩
          · skip
            refine ov_blk (ls2 := [(0, ov_r 90), (1, ov_i v2)]) (st2 := [ov_i 9, ov_i 0, ov_r 90, ov_i (342 + v2), ov_r 96]) (pc2 := 93) b_233_89_3 rfl rfl ?_
            refine ov_cV (as := [ov_i 0, ov_i 9]) (st := [ov_i (342 + v2), ov_r 96]) (d2 := d - 1) d_233_93 lk_Mo_198 rfl (Nat.le_of_ble_eq_true rfl) (c := 1) (zb_90 I18) (zs_90 I18) ⟨by decide, rfl⟩ (by omega) (c_Mo_takeNumber_90 n (d - 1) (by omega) U I18 0 9 (by omega) (by omega) (by show 0 ≤ n ∧ n ≤ 1000 ∧ (h 92 (n)) = 0 ∧ ((h 90 7) + 1) ≤ n; omega)) ?_
            rintro _ z89 h90 ⟨v73, rfl, I91, f72, e74, e75, e76, e77, e78, e79, e80, e81, e82, e83, e84, e85, e86, e87, e88⟩
            have E92 : h90 91 = h 91 := e74
            have E93 : h90 92 = h 92 := e75
            have E94 : h90 93 = h 93 := e76
            have E95 : h90 94 = h 94 := e77
            have E96 : h90 95 = h 95 := e78
            have E97 : h90 96 = h 96 := e79
            have E98 : h90 97 = h 97 := e80
            have E99 : h90 98 = h 98 := e81
            have E100 : h90 99 = h 99 := e82
            have E101 : h90 100 = h 100 := e83
            have E102 : h90 103 = h 103 := e84
            have E103 : h90 105 = h 105 := e85
            have E104 : h90 106 = h 106 := e86
            have E105 : h90 109 = h 109 := e87
            have E106 : h90 114 = h 114 := e88
            show ov_R u d ov_m233 96 [(0, ov_r 90), (1, ov_i v2)] [ov_i v73, ov_i (342 + v2), ov_r 96] z89 h90 (P_Mo_readOnce_90 F z h n)
            have f107 : (h90 90 2) = (h 90 2) ∧ (h90 90 13) = (h 90 13) ∧ (h90 90 20) = (h 90 20) ∧ (h90 90 22) = (h 90 22) ∧ (h90 90 25) = (h 90 25) ∧ (h90 90 26) = (h 90 26) ∧ (h90 90 28) = (h 90 28) ∧ (h90 90 29) = (h 90 29) ∧ (h90 90 30) = (h 90 30) ∧ (h90 90 34) = (h 90 34) ∧ ((h 90 7) + 1) ≤ (h90 90 7) ∧ (h90 90 7) ≤ n ∧ (h 90 8) ≤ (h90 90 8) ∧ ((h90 90 8) = 0 → (0 : Int) ≤ v73 ∧ v73 ≤ (9 : Int)) ∧ (0 < (h90 90 8) → v73 = 0) ∧ ((h 90 7) + 1) < (h90 90 7) + (h90 90 8) := f72
            clear f72
            refine ov_goto (tgt := 106) d_233_96 (by decide) ?_
            refine ov_iast d_233_106 (zb_96 I91) (zs_96 I91) (by omega) ?_
            have I108 := ua_96 (k := (342 + v2)) (x := v73) I91 (by refine ⟨?_, ?_, ?_, ?_, ?_, ?_, ?_, ?_, ?_, ?_, ?_, ?_, ?_, ?_, ?_, ?_, ?_, ?_, ?_, ?_, ?_, ?_, ?_, ?_, ?_, ?_, ?_, ?_, ?_⟩ <;> omega)
            have R109 : ov_RD (h 96) (h 97) (h 98) (h 90 13) (h90 96) (h90 97) (h90 98) (h 90 13) := by rw [show h90 96 = h 96 from E97, show h90 97 = h 97 from E98, show h90 98 = h 98 from E99]; exact ov_RD_refl _ _ _ _
            have R110 : ov_RD (h 96) (h 97) (h 98) (h 90 13) ((ov_up h90 96 (342 + v2) v73) 96) ((ov_up h90 96 (342 + v2) v73) 97) ((ov_up h90 96 (342 + v2) v73) 98) (h 90 13) := by rw [ov_up_row]; exact ov_RD_w R109 (t96_348 I91).2 (by omega)
            have qo1 : ((342 + v2)) = 342 → ((ov_up h90 96 (342 + v2) v73) 96 342) = v73 := fun e => by rw [ov_up_row]; unfold ov_rs; rw [if_pos e.symm]
            have qo2 : ¬ ((342 + v2)) = 342 → ((ov_up h90 96 (342 + v2) v73) 96 342) = h90 96 342 := fun e => by rw [ov_up_j (fun q => e q.symm)]; try rfl
            have lt111 : ((ov_up h90 96 (342 + v2) v73) 96 340) = h90 96 340 := by try rw [ov_up_j (by omega)]; try rfl
            have lt112 : h90 96 340 = h 96 340 := congrFun E97 340
            have lt113 : ((ov_up h90 96 (342 + v2) v73) 96 341) = h90 96 341 := by try rw [ov_up_j (by omega)]; try rfl
            have lt114 : h90 96 341 = h 96 341 := congrFun E97 341
            have lt115 : ((ov_up h90 96 (342 + v2) v73) 96 348) = h90 96 348 := by try rw [ov_up_j (by omega)]; try rfl
            have lt116 : h90 96 348 = h 96 348 := congrFun E97 348
            have lt117 : ((ov_up h90 96 (342 + v2) v73) 96 349) = h90 96 349 := by try rw [ov_up_j (by omega)]; try rfl
            have lt118 : h90 96 349 = h 96 349 := congrFun E97 349
            have qo3 : h90 96 342 = h 96 342 := congrFun E97 342
            have cf119 : h90 96 340 = h 96 340 := congrFun E97 340
            have cf120 : h90 96 341 = h 96 341 := congrFun E97 341
            have cf121 : h90 96 342 = h 96 342 := congrFun E97 342
            have cf122 : h90 96 349 = h 96 349 := congrFun E97 349
            exact ov_retv (st := []) d_233_107 rfl ⟨rfl, I108, (by show (h90 90 2) = (h 90 2) ∧ (h90 90 13) = (h 90 13) ∧ (h90 90 20) = (h 90 20) ∧ (h90 90 22) = (h 90 22) ∧ (h90 90 25) = (h 90 25) ∧ (h90 90 26) = (h 90 26) ∧ (h90 90 28) = (h 90 28) ∧ (h90 90 29) = (h 90 29) ∧ (h90 90 30) = (h 90 30) ∧ (h90 90 34) = (h 90 34) ∧ (h 90 7) ≤ (h90 90 7) ∧ (h90 90 7) ≤ n ∧ (h 90 13) ≤ (h90 90 13) ∧ (h90 90 13) - (h 90 13) ≤ (h90 90 7) - (h 90 7) ∧ ((ov_up h90 96 (342 + v2) v73) 96 340) = (h 96 340) ∧ ((ov_up h90 96 (342 + v2) v73) 96 341) = (h 96 341) ∧ ((h90 90 8) = 0 → 1 ≤ (h 96 342) → 1 ≤ ((ov_up h90 96 (342 + v2) v73) 96 342)) ∧ (1 ≤ (h 96 349) → 1 ≤ ((ov_up h90 96 (342 + v2) v73) 96 349)); omega), E92, E93, E94, E95, E96, E98, E99, E100, E101, E102, E103, E104, E105, E106, R110.1, R110.2.1, (fun _ w => by show ov_CS ((ov_up h90 96 (342 + v2) v73) 96) ((ov_up h90 96 (342 + v2) v73) 97) ((ov_up h90 96 (342 + v2) v73) 98) (h90 90 13); rw [show (h90 90 13) = h 90 13 by omega]; exact R110.2.2 w)⟩
        · skip
          refine ov_blk (ls2 := [(0, ov_r 90), (1, ov_i v2)]) (st2 := [ov_i 1, ov_i (342 + v2), ov_r 96]) (pc2 := 81) b_233_80_1 rfl rfl ?_
          refine ov_goto (tgt := 106) d_233_81 (by decide) ?_
          refine ov_iast d_233_106 (zb_96 I18) (zs_96 I18) (by omega) ?_
          have I123 := ua_96 (k := (342 + v2)) (x := 1) I18 (by refine ⟨?_, ?_, ?_, ?_, ?_, ?_, ?_, ?_, ?_, ?_, ?_, ?_, ?_, ?_, ?_, ?_, ?_, ?_, ?_, ?_, ?_, ?_, ?_, ?_, ?_, ?_, ?_, ?_, ?_⟩ <;> omega)
          have R124 : ov_RD (h 96) (h 97) (h 98) (h 90 13) ((ov_up (ov_up h 90 15 w15) 90 7 ((h 90 7) + 1)) 96) ((ov_up (ov_up h 90 15 w15) 90 7 ((h 90 7) + 1)) 97) ((ov_up (ov_up h 90 15 w15) 90 7 ((h 90 7) + 1)) 98) (h 90 13) := by exact ov_RD_refl _ _ _ _
          have R125 : ov_RD (h 96) (h 97) (h 98) (h 90 13) ((ov_up (ov_up (ov_up h 90 15 w15) 90 7 ((h 90 7) + 1)) 96 (342 + v2) 1) 96) ((ov_up (ov_up (ov_up h 90 15 w15) 90 7 ((h 90 7) + 1)) 96 (342 + v2) 1) 97) ((ov_up (ov_up (ov_up h 90 15 w15) 90 7 ((h 90 7) + 1)) 96 (342 + v2) 1) 98) (h 90 13) := by rw [ov_up_row]; exact ov_RD_w R124 (t96_348 I18).2 (by omega)
          have qo1 : ((342 + v2)) = 342 → ((ov_up (ov_up (ov_up h 90 15 w15) 90 7 ((h 90 7) + 1)) 96 (342 + v2) 1) 96 342) = 1 := fun e => by rw [ov_up_row]; unfold ov_rs; rw [if_pos e.symm]
          have qo2 : ¬ ((342 + v2)) = 342 → ((ov_up (ov_up (ov_up h 90 15 w15) 90 7 ((h 90 7) + 1)) 96 (342 + v2) 1) 96 342) = h 96 342 := fun e => by rw [ov_up_j (fun q => e q.symm)]; try rfl
          have lt126 : ((ov_up (ov_up (ov_up h 90 15 w15) 90 7 ((h 90 7) + 1)) 96 (342 + v2) 1) 96 340) = h 96 340 := by try rw [ov_up_j (by omega)]; try show (ov_up h 90 15 w15) 96 340 = _; try show h 96 340 = _; try rfl
          have lt127 : ((ov_up (ov_up (ov_up h 90 15 w15) 90 7 ((h 90 7) + 1)) 96 (342 + v2) 1) 96 341) = h 96 341 := by try rw [ov_up_j (by omega)]; try show (ov_up h 90 15 w15) 96 341 = _; try show h 96 341 = _; try rfl
          have lt128 : ((ov_up (ov_up (ov_up h 90 15 w15) 90 7 ((h 90 7) + 1)) 96 (342 + v2) 1) 96 348) = h 96 348 := by try rw [ov_up_j (by omega)]; try show (ov_up h 90 15 w15) 96 348 = _; try show h 96 348 = _; try rfl
          have lt129 : ((ov_up (ov_up (ov_up h 90 15 w15) 90 7 ((h 90 7) + 1)) 96 (342 + v2) 1) 96 349) = h 96 349 := by try rw [ov_up_j (by omega)]; try show (ov_up h 90 15 w15) 96 349 = _; try show h 96 349 = _; try rfl
          exact ov_retv (st := []) d_233_107 rfl ⟨rfl, I123, ⟨rfl, rfl, rfl, rfl, rfl, rfl, rfl, rfl, rfl, rfl, (by show (h 90 7) ≤ ((h 90 7) + 1) ∧ ((h 90 7) + 1) ≤ n ∧ (h 90 13) ≤ (h 90 13) ∧ (h 90 13) - (h 90 13) ≤ ((h 90 7) + 1) - (h 90 7) ∧ ((ov_up (ov_up (ov_up h 90 15 w15) 90 7 ((h 90 7) + 1)) 96 (342 + v2) 1) 96 340) = (h 96 340) ∧ ((ov_up (ov_up (ov_up h 90 15 w15) 90 7 ((h 90 7) + 1)) 96 (342 + v2) 1) 96 341) = (h 96 341) ∧ ((h 90 8) = 0 → 1 ≤ (h 96 342) → 1 ≤ ((ov_up (ov_up (ov_up h 90 15 w15) 90 7 ((h 90 7) + 1)) 96 (342 + v2) 1) 96 342)) ∧ (1 ≤ (h 96 349) → 1 ≤ ((ov_up (ov_up (ov_up h 90 15 w15) 90 7 ((h 90 7) + 1)) 96 (342 + v2) 1) 96 349)); omega)⟩, rfl, rfl, rfl, rfl, rfl, rfl, rfl, rfl, rfl, rfl, rfl, rfl, rfl, rfl, R125.1, R125.2.1, (fun _ w => by show ov_CS ((ov_up (ov_up (ov_up h 90 15 w15) 90 7 ((h 90 7) + 1)) 96 (342 + v2) 1) 96) ((ov_up (ov_up (ov_up h 90 15 w15) 90 7 ((h 90 7) + 1)) 96 (342 + v2) 1) 97) ((ov_up (ov_up (ov_up h 90 15 w15) 90 7 ((h 90 7) + 1)) 96 (342 + v2) 1) 98) (h 90 13); rw [show (h 90 13) = h 90 13 by omega]; exact R125.2.2 w)⟩
      · skip
        have R130 : ov_RD (h 96) (h 97) (h 98) (h 90 13) (h 96) (h 97) (h 98) (h 90 13) := by exact ov_RD_refl _ _ _ _
        exact ov_retv (st := []) d_233_43 rfl ⟨rfl, I, ⟨rfl, rfl, rfl, rfl, rfl, rfl, rfl, rfl, rfl, rfl, (by show (h 90 7) ≤ (h 90 7) ∧ (h 90 7) ≤ n ∧ (h 90 13) ≤ (h 90 13) ∧ (h 90 13) - (h 90 13) ≤ (h 90 7) - (h 90 7) ∧ (h 96 340) = (h 96 340) ∧ (h 96 341) = (h 96 341) ∧ ((h 90 8) = 0 → 1 ≤ (h 96 342) → 1 ≤ (h 96 342)) ∧ (1 ≤ (h 96 349) → 1 ≤ (h 96 349)); omega)⟩, rfl, rfl, rfl, rfl, rfl, rfl, rfl, rfl, rfl, rfl, rfl, rfl, rfl, rfl, R130.1, R130.2.1, (fun _ w => by show ov_CS (h 96) (h 97) (h 98) (h 90 13); rw [show (h 90 13) = h 90 13 by omega]; exact R130.2.2 w)⟩
    · skip
      refine ov_blk (ls2 := [(0, ov_r 90), (1, ov_i v2)]) (st2 := [ov_i 3, ov_r 90]) (pc2 := 33) b_233_31_2 rfl rfl ?_
      refine ov_cV (as := [ov_i 3]) (st := []) (d2 := d - 1) d_233_33 lk_Mo_186 rfl (Nat.le_of_ble_eq_true rfl) (c := 1) (zb_90 I) (zs_90 I) ⟨by decide, rfl⟩ (by omega) (c_Mo_wrong_90 (d - 1) (by omega) U I 3 (by omega) (by omega)) ?_
      rintro _ z147 h148 ⟨rfl, I149, f131, e132, e133, e134, e135, e136, e137, e138, e139, e140, e141, e142, e143, e144, e145, e146⟩
      have E150 : h148 91 = h 91 := e132
      have E151 : h148 92 = h 92 := e133
      have E152 : h148 93 = h 93 := e134
      have E153 : h148 94 = h 94 := e135
      have E154 : h148 95 = h 95 := e136
      have E155 : h148 96 = h 96 := e137
      have E156 : h148 97 = h 97 := e138
      have E157 : h148 98 = h 98 := e139
      have E158 : h148 99 = h 99 := e140
      have E159 : h148 100 = h 100 := e141
      have E160 : h148 103 = h 103 := e142
      have E161 : h148 105 = h 105 := e143
      have E162 : h148 106 = h 106 := e144
      have E163 : h148 109 = h 109 := e145
      have E164 : h148 114 = h 114 := e146
      show ov_R u d ov_m233 36 [(0, ov_r 90), (1, ov_i v2)] [] z147 h148 (P_Mo_readOnce_90 F z h n)
      have f165 : (h148 90 2) = (h 90 2) ∧ (h148 90 7) = (h 90 7) ∧ (h148 90 13) = (h 90 13) ∧ (h148 90 20) = (h 90 20) ∧ (h148 90 22) = (h 90 22) ∧ (h148 90 25) = (h 90 25) ∧ (h148 90 26) = (h 90 26) ∧ (h148 90 28) = (h 90 28) ∧ (h148 90 29) = (h 90 29) ∧ (h148 90 30) = (h 90 30) ∧ (h148 90 34) = (h 90 34) ∧ 0 < (h148 90 8) ∧ (h 90 8) ≤ (h148 90 8) := f131
      clear f131
      refine ov_blk (ls2 := [(0, ov_r 90), (1, ov_i v2)]) (st2 := [ov_r 90]) (pc2 := 37) b_233_36_1 rfl rfl ?_
      refine ov_getf (v := ov_i (h148 90 8)) d_233_37 fl_Mo_180 (zb_90 I149) (zs_90 I149) rfl ?_
      have g166 := rg_90_8 I149
      refine ov_ifle (tgt := 44) d_233_40 (by decide) (by omega) (fun c167 => ?_) (fun c167 => ?_)
      · omega
      · skip
        have qo3 : h148 96 342 = h 96 342 := congrFun E155 342
        have cf168 : h148 96 340 = h 96 340 := congrFun E155 340
        have cf169 : h148 96 341 = h 96 341 := congrFun E155 341
        have cf170 : h148 96 342 = h 96 342 := congrFun E155 342
        have cf171 : h148 96 349 = h 96 349 := congrFun E155 349
        have R172 : ov_RD (h 96) (h 97) (h 98) (h 90 13) (h148 96) (h148 97) (h148 98) (h 90 13) := by rw [show h148 96 = h 96 from E155, show h148 97 = h 97 from E156, show h148 98 = h 98 from E157]; exact ov_RD_refl _ _ _ _
        exact ov_retv (st := []) d_233_43 rfl ⟨rfl, I149, (by show (h148 90 2) = (h 90 2) ∧ (h148 90 13) = (h 90 13) ∧ (h148 90 20) = (h 90 20) ∧ (h148 90 22) = (h 90 22) ∧ (h148 90 25) = (h 90 25) ∧ (h148 90 26) = (h 90 26) ∧ (h148 90 28) = (h 90 28) ∧ (h148 90 29) = (h 90 29) ∧ (h148 90 30) = (h 90 30) ∧ (h148 90 34) = (h 90 34) ∧ (h 90 7) ≤ (h148 90 7) ∧ (h148 90 7) ≤ n ∧ (h 90 13) ≤ (h148 90 13) ∧ (h148 90 13) - (h 90 13) ≤ (h148 90 7) - (h 90 7) ∧ (h148 96 340) = (h 96 340) ∧ (h148 96 341) = (h 96 341) ∧ ((h148 90 8) = 0 → 1 ≤ (h 96 342) → 1 ≤ (h148 96 342)) ∧ (1 ≤ (h 96 349) → 1 ≤ (h148 96 349)); omega), E150, E151, E152, E153, E154, E156, E157, E158, E159, E160, E161, E162, E163, E164, R172.1, R172.2.1, (fun _ w => by show ov_CS (h148 96) (h148 97) (h148 98) (h148 90 13); rw [show (h148 90 13) = h 90 13 by omega]; exact R172.2.2 w)⟩
  · skip
    refine ov_blk (ls2 := [(0, ov_r 90), (1, ov_i v2)]) (st2 := [ov_i 1, ov_r 90]) (pc2 := 13) b_233_11_2 rfl rfl ?_
    refine ov_cV (as := [ov_i 1]) (st := []) (d2 := d - 1) d_233_13 lk_Mo_186 rfl (Nat.le_of_ble_eq_true rfl) (c := 1) (zb_90 I) (zs_90 I) ⟨by decide, rfl⟩ (by omega) (c_Mo_wrong_90 (d - 1) (by omega) U I 1 (by omega) (by omega)) ?_
    rintro _ z189 h190 ⟨rfl, I191, f173, e174, e175, e176, e177, e178, e179, e180, e181, e182, e183, e184, e185, e186, e187, e188⟩
    have E192 : h190 91 = h 91 := e174
    have E193 : h190 92 = h 92 := e175
    have E194 : h190 93 = h 93 := e176
    have E195 : h190 94 = h 94 := e177
    have E196 : h190 95 = h 95 := e178
    have E197 : h190 96 = h 96 := e179
    have E198 : h190 97 = h 97 := e180
    have E199 : h190 98 = h 98 := e181
    have E200 : h190 99 = h 99 := e182
    have E201 : h190 100 = h 100 := e183
    have E202 : h190 103 = h 103 := e184
    have E203 : h190 105 = h 105 := e185
    have E204 : h190 106 = h 106 := e186
    have E205 : h190 109 = h 109 := e187
    have E206 : h190 114 = h 114 := e188
    show ov_R u d ov_m233 16 [(0, ov_r 90), (1, ov_i v2)] [] z189 h190 (P_Mo_readOnce_90 F z h n)
    have f207 : (h190 90 2) = (h 90 2) ∧ (h190 90 7) = (h 90 7) ∧ (h190 90 13) = (h 90 13) ∧ (h190 90 20) = (h 90 20) ∧ (h190 90 22) = (h 90 22) ∧ (h190 90 25) = (h 90 25) ∧ (h190 90 26) = (h 90 26) ∧ (h190 90 28) = (h 90 28) ∧ (h190 90 29) = (h 90 29) ∧ (h190 90 30) = (h 90 30) ∧ (h190 90 34) = (h 90 34) ∧ 0 < (h190 90 8) ∧ (h 90 8) ≤ (h190 90 8) := f173
    clear f173
    refine ov_goto (tgt := 36) d_233_16 (by decide) ?_
    refine ov_blk (ls2 := [(0, ov_r 90), (1, ov_i v2)]) (st2 := [ov_r 90]) (pc2 := 37) b_233_36_1 rfl rfl ?_
    refine ov_getf (v := ov_i (h190 90 8)) d_233_37 fl_Mo_180 (zb_90 I191) (zs_90 I191) rfl ?_
    have g208 := rg_90_8 I191
    refine ov_ifle (tgt := 44) d_233_40 (by decide) (by omega) (fun c209 => ?_) (fun c209 => ?_)
    · omega
    · skip
      have qo3 : h190 96 342 = h 96 342 := congrFun E197 342
      have cf210 : h190 96 340 = h 96 340 := congrFun E197 340
      have cf211 : h190 96 341 = h 96 341 := congrFun E197 341
      have cf212 : h190 96 342 = h 96 342 := congrFun E197 342
      have cf213 : h190 96 349 = h 96 349 := congrFun E197 349
      have R214 : ov_RD (h 96) (h 97) (h 98) (h 90 13) (h190 96) (h190 97) (h190 98) (h 90 13) := by rw [show h190 96 = h 96 from E197, show h190 97 = h 97 from E198, show h190 98 = h 98 from E199]; exact ov_RD_refl _ _ _ _
      exact ov_retv (st := []) d_233_43 rfl ⟨rfl, I191, (by show (h190 90 2) = (h 90 2) ∧ (h190 90 13) = (h 90 13) ∧ (h190 90 20) = (h 90 20) ∧ (h190 90 22) = (h 90 22) ∧ (h190 90 25) = (h 90 25) ∧ (h190 90 26) = (h 90 26) ∧ (h190 90 28) = (h 90 28) ∧ (h190 90 29) = (h 90 29) ∧ (h190 90 30) = (h 90 30) ∧ (h190 90 34) = (h 90 34) ∧ (h 90 7) ≤ (h190 90 7) ∧ (h190 90 7) ≤ n ∧ (h 90 13) ≤ (h190 90 13) ∧ (h190 90 13) - (h 90 13) ≤ (h190 90 7) - (h 90 7) ∧ (h190 96 340) = (h 96 340) ∧ (h190 96 341) = (h 96 341) ∧ ((h190 90 8) = 0 → 1 ≤ (h 96 342) → 1 ≤ (h190 96 342)) ∧ (1 ≤ (h 96 349) → 1 ≤ (h190 96 349)); omega), E192, E193, E194, E195, E196, E198, E199, E200, E201, E202, E203, E204, E205, E206, R214.1, R214.2.1, (fun _ w => by show ov_CS (h190 96) (h190 97) (h190 98) (h190 90 13); rw [show (h190 90 13) = h 90 13 by omega]; exact R214.2.2 w)⟩

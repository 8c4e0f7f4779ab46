abbrev P_Mo_tried_90 (F : ov_H × ov_Z) (z : ov_Z) (h : ov_H) (x : Int) (y : Int) (p : Int) (t : Int) : Option ov_V → ov_Z → ov_H → Prop := fun r0 z' h' => ∃ r : Int, r0 = some (ov_i r) ∧ ov_N F z' h' ∧ ((h' 90 2) = (h 90 2) ∧ (h' 90 7) = (h 90 7) ∧ (h' 90 8) = (h 90 8) ∧ (h' 90 13) = (h 90 13) ∧ (h' 90 20) = (h 90 20) ∧ (h' 90 22) = (h 90 22) ∧ (h' 90 25) = (h 90 25) ∧ (h' 90 26) = (h 90 26) ∧ (h' 90 28) = (h 90 28) ∧ (h' 90 29) = (h 90 29) ∧ (h' 90 30) = (h 90 30) ∧ (h' 90 34) = (h 90 34) ∧ (r = 0 ∨ r = 1)) ∧ h' 91 = h 91 ∧ h' 92 = h 92 ∧ h' 93 = h 93 ∧ h' 94 = h 94 ∧ h' 95 = h 95 ∧ h' 96 = h 96 ∧ h' 97 = h 97 ∧ h' 98 = h 98 ∧ h' 99 = h 99 ∧ h' 100 = h 100 ∧ h' 104 = h 104 ∧ h' 105 = h 105 ∧ h' 106 = h 106 ∧ h' 109 = h 109 ∧ h' 114 = h 114 ∧ (∀ j : Int, 4 ≤ j → j ≤ 57 → (h' 103) j = (h 103) j)
set_option maxHeartbeats 4000000 in
theorem c_Mo_tried_90 {u : ov_U} {F : ov_H × ov_Z} {z : ov_Z} {h : ov_H} (d : Nat) (hd : 2 ≤ d) (U : ov_cap u) (I : ov_N F z h) (x : Int) (y : Int) (p : Int) (t : Int) (g_x : ov_g x) (g_y : ov_g y) (g_p : p = 0 ∨ p = 1) (g_t : ov_g t) : ov_T u d ov_m295 [ov_r 90, ov_i x, ov_i y, ov_i p, ov_i t] z h (P_Mo_tried_90 F z h x y p t) := by
  refine ov_en rfl (Nat.le_of_ble_eq_true rfl) ?_
  show ov_R u d ov_m295 0 [(0, ov_r 90), (1, ov_i x), (2, ov_i y), (3, ov_i p), (4, ov_i t)] [] z h (P_Mo_tried_90 F z h x y p t)
  have t0 := t96_0 I
  have t1 := t96_1 I
  refine ov_blk (ls2 := [(0, ov_r 90), (1, ov_i x), (2, ov_i y), (3, ov_i p), (4, ov_i t)]) (st2 := [ov_i 0, ov_r 90]) (pc2 := 2) b_295_0_2 rfl rfl ?_
  refine ov_putf (x := 0) d_295_2 fl_Mo_1 (zb_90 I) (zs_90 I) rfl nk_0 rfl ?_
  have I1 := up_90_0 (x := 0) I (by omega)
  refine ov_blk (ls2 := [(0, ov_r 90), (1, ov_i x), (2, ov_i y), (3, ov_i p), (4, ov_i t)]) (st2 := [ov_i y, ov_i x, ov_r 90]) (pc2 := 8) b_295_5_3 rfl rfl ?_
  refine ov_cV (as := [ov_i x, ov_i y]) (st := []) (d2 := d - 1) d_295_8 lk_Mo_296 rfl (Nat.le_of_ble_eq_true rfl) (c := 1) (zb_90 I1) (zs_90 I1) ⟨by decide, rfl⟩ (by omega) (c_Mo_isCorner_90 (d - 1) (by omega) U I1 x y (by omega) (by omega)) ?_
  rintro _ _ _ ⟨v3, rfl, rfl, rfl, f2⟩
  show ov_R u d ov_m295 11 [(0, ov_r 90), (1, ov_i x), (2, ov_i y), (3, ov_i p), (4, ov_i t)] [ov_i v3] z (ov_up h 90 0 0) (P_Mo_tried_90 F z h x y p t)
  have f4 : (v3 = 0 ∨ v3 = 1) ∧ (v3 = 1 → 0 ≤ x ∧ x ≤ 5 ∧ 0 ≤ y ∧ y ≤ 8 ∧ x < (h 96 0) ∧ y < (h 96 1)) := f2
  clear f2
  refine ov_ifeq (tgt := 47) d_295_11 (by decide) (by omega) (fun c5 => ?_) (fun c5 => ?_)
  · skip
    have f4_ : v3 = 0 := by omega
    clear f4
    refine ov_blk (ls2 := [(0, ov_r 90), (1, ov_i x), (2, ov_i y), (3, ov_i p), (4, ov_i t)]) (st2 := [ov_i 0]) (pc2 := 48) b_295_47_1 rfl rfl ?_
    exact ov_retz (st := []) d_295_48 rfl (by omega) ⟨_, rfl, I1, ⟨rfl, rfl, rfl, rfl, rfl, rfl, rfl, rfl, rfl, rfl, rfl, rfl, (by show (0 = 0 ∨ 0 = 1); omega)⟩, rfl, rfl, rfl, rfl, rfl, rfl, rfl, rfl, rfl, rfl, rfl, rfl, rfl, rfl, rfl, (fun j h1 h2 => rfl)⟩
  · skip
    have f4_ : v3 = 1 := by omega
    have f6 : 0 ≤ x ∧ x ≤ 5 ∧ 0 ≤ y ∧ y ≤ 8 ∧ x < (h 96 0) ∧ y < (h 96 1) := f4.2 (by omega)
    clear f4
    refine ov_blk (ls2 := [(0, ov_r 90), (1, ov_i x), (2, ov_i y), (3, ov_i p), (4, ov_i t)]) (st2 := [ov_i y, ov_i x, ov_r 90]) (pc2 := 17) b_295_14_3 rfl rfl ?_
    refine ov_cV (as := [ov_i x, ov_i y]) (st := []) (d2 := d - 1) d_295_17 lk_Mo_282 rfl (Nat.le_of_ble_eq_true rfl) (c := 1) (zb_90 I1) (zs_90 I1) ⟨by decide, rfl⟩ (by omega) (c_Mo_kindAt_90 (d - 1) (by omega) U I1 x y (by omega) (by omega) (by omega)) ?_
    rintro _ _ _ ⟨v8, rfl, rfl, rfl, f7⟩
    show ov_R u d ov_m295 20 [(0, ov_r 90), (1, ov_i x), (2, ov_i y), (3, ov_i p), (4, ov_i t)] [ov_i v8] z (ov_up h 90 0 0) (P_Mo_tried_90 F z h x y p t)
    have f9 : v8 = (h 96 (10 + 4 * (6 * y + x))) - 1 ∧ -1 ≤ v8 ∧ v8 ≤ 3 := f7
    clear f7
    refine ov_blk (ls2 := [(0, ov_r 90), (1, ov_i x), (2, ov_i y), (3, ov_i p), (4, ov_i t)]) (st2 := [ov_i 2, ov_i v8]) (pc2 := 21) b_295_20_1 rfl rfl ?_
    refine ov_icne (tgt := 47) d_295_21 (by decide) (by omega) (by omega) (fun c10 => ?_) (fun c10 => ?_)
    · skip
      refine ov_blk (ls2 := [(0, ov_r 90), (1, ov_i x), (2, ov_i y), (3, ov_i p), (4, ov_i t)]) (st2 := [ov_i 0]) (pc2 := 48) b_295_47_1 rfl rfl ?_
      exact ov_retz (st := []) d_295_48 rfl (by omega) ⟨_, rfl, I1, ⟨rfl, rfl, rfl, rfl, rfl, rfl, rfl, rfl, rfl, rfl, rfl, rfl, (by show (0 = 0 ∨ 0 = 1); omega)⟩, rfl, rfl, rfl, rfl, rfl, rfl, rfl, rfl, rfl, rfl, rfl, rfl, rfl, rfl, rfl, (fun j h1 h2 => rfl)⟩
    · skip
      refine ov_blk (ls2 := [(0, ov_r 90), (1, ov_i x), (2, ov_i y), (3, ov_i p), (4, ov_i t)]) (st2 := [ov_i 59, ov_i 0, ov_i t]) (pc2 := 29) b_295_24_3 rfl rfl ?_
      refine ov_cS (as := [ov_i t, ov_i 0, ov_i 59]) (st := []) (d2 := d - 1) d_295_29 lk_Mo_299 rfl (Nat.le_of_ble_eq_true rfl) (by omega) (c_Mo_within (d - 1) (by omega) U I1 t 0 59 (by omega) (by omega) (by omega)) ?_
      rintro _ _ _ ⟨v12, rfl, rfl, rfl, f11⟩
      show ov_R u d ov_m295 32 [(0, ov_r 90), (1, ov_i x), (2, ov_i y), (3, ov_i p), (4, ov_i t)] [ov_i v12] z (ov_up h 90 0 0) (P_Mo_tried_90 F z h x y p t)
      have f13 : (v12 = 0 ∨ v12 = 1) ∧ (v12 = 1 → (0 : Int) ≤ t ∧ t ≤ (59 : Int)) ∧ (v12 = 0 → t < (0 : Int) ∨ (59 : Int) < t) := f11
      clear f11
      refine ov_ifeq (tgt := 47) d_295_32 (by decide) (by omega) (fun c14 => ?_) (fun c14 => ?_)
      · skip
        have f13_ : v12 = 0 := by omega
        have f15 : t < (0 : Int) ∨ (59 : Int) < t := f13.2.2 (by omega)
        clear f13
        refine ov_blk (ls2 := [(0, ov_r 90), (1, ov_i x), (2, ov_i y), (3, ov_i p), (4, ov_i t)]) (st2 := [ov_i 0]) (pc2 := 48) b_295_47_1 rfl rfl ?_
        exact ov_retz (st := []) d_295_48 rfl (by omega) ⟨_, rfl, I1, ⟨rfl, rfl, rfl, rfl, rfl, rfl, rfl, rfl, rfl, rfl, rfl, rfl, (by show (0 = 0 ∨ 0 = 1); omega)⟩, rfl, rfl, rfl, rfl, rfl, rfl, rfl, rfl, rfl, rfl, rfl, rfl, rfl, rfl, rfl, (fun j h1 h2 => rfl)⟩
      · skip
        have f13_ : v12 = 1 := by omega
        have f16 : (0 : Int) ≤ t ∧ t ≤ (59 : Int) := f13.2.1 (by omega)
        clear f13
        refine ov_blk (ls2 := [(0, ov_r 90), (1, ov_i x), (2, ov_i y), (3, ov_i p), (4, ov_i t)]) (st2 := [ov_r 90]) (pc2 := 36) b_295_35_1 rfl rfl ?_
        refine ov_getf (v := ov_r 103) d_295_36 fl_Mo_102 (zb_90 I1) (zs_90 I1) (congrArg ov_r (rg_90_19 I1)) ?_
        refine ov_blk (ls2 := [(0, ov_r 90), (1, ov_i x), (2, ov_i y), (3, ov_i p), (4, ov_i t)]) (st2 := [ov_i 58, ov_r 103]) (pc2 := 41) b_295_39_1 rfl rfl ?_
        refine ov_iald d_295_41 (zb_103 I1) (zs_103 I1) (by omega) ?_
        show ov_R u d ov_m295 42 [(0, ov_r 90), (1, ov_i x), (2, ov_i y), (3, ov_i p), (4, ov_i t)] [ov_i (h 103 58)] z (ov_up h 90 0 0) (P_Mo_tried_90 F z h x y p t)
        have g17 := s103_58 I
        refine ov_blk (ls2 := [(0, ov_r 90), (1, ov_i x), (2, ov_i y), (3, ov_i p), (4, ov_i t)]) (st2 := [ov_i 10, ov_i (h 103 58)]) (pc2 := 44) b_295_42_1 rfl rfl ?_
        refine ov_icne (tgt := 49) d_295_44 (by decide) (by omega) (by omega) (fun c18 => ?_) (fun c18 => ?_)
        · skip
          refine ov_blk (ls2 := [(0, ov_r 90), (1, ov_i x), (2, ov_i y), (3, ov_i p), (4, ov_i t)]) (st2 := [ov_r 90, ov_i 3, ov_i 60]) (pc2 := 53) b_295_49_3 rfl rfl ?_
          refine ov_getf (v := ov_r 103) d_295_53 fl_Mo_102 (zb_90 I1) (zs_90 I1) (congrArg ov_r (rg_90_19 I1)) ?_
          refine ov_blk (ls2 := [(0, ov_r 90), (1, ov_i x), (2, ov_i y), (3, ov_i p), (4, ov_i t)]) (st2 := [ov_i 58, ov_r 103, ov_i 3, ov_i 60]) (pc2 := 58) b_295_56_1 rfl rfl ?_
          refine ov_iald d_295_58 (zb_103 I1) (zs_103 I1) (by omega) ?_
          show ov_R u d ov_m295 59 [(0, ov_r 90), (1, ov_i x), (2, ov_i y), (3, ov_i p), (4, ov_i t)] [ov_i (h 103 58), ov_i 3, ov_i 60] z (ov_up h 90 0 0) (P_Mo_tried_90 F z h x y p t)
          refine ov_blk (ls2 := [(0, ov_r 90), (1, ov_i x), (2, ov_i y), (3, ov_i p), (4, ov_i t), (5, ov_i (60 + (3 * (h 103 58))))]) (st2 := [ov_r 90]) (pc2 := 64) b_295_59_4 rfl rfl ?_
          refine ov_getf (v := ov_r 103) d_295_64 fl_Mo_102 (zb_90 I1) (zs_90 I1) (congrArg ov_r (rg_90_19 I1)) ?_
          refine ov_blk (ls2 := [(0, ov_r 90), (1, ov_i x), (2, ov_i y), (3, ov_i p), (4, ov_i t), (5, ov_i (60 + (3 * (h 103 58))))]) (st2 := [ov_i ((6 * y) + x), ov_i (60 + (3 * (h 103 58))), ov_r 103]) (pc2 := 75) b_295_67_6 rfl rfl ?_
          refine ov_iast d_295_75 (zb_103 I1) (zs_103 I1) (by omega) ?_
          have I20 := ua_103 (k := (60 + (3 * (h 103 58)))) (x := ((6 * y) + x)) I1 (by refine ⟨?_, ?_, ?_, ?_, ?_, ?_⟩ <;> omega)
          refine ov_blk (ls2 := [(0, ov_r 90), (1, ov_i x), (2, ov_i y), (3, ov_i p), (4, ov_i t), (5, ov_i (60 + (3 * (h 103 58))))]) (st2 := [ov_r 90]) (pc2 := 77) b_295_76_1 rfl rfl ?_
          refine ov_getf (v := ov_r 103) d_295_77 fl_Mo_102 (zb_90 I20) (zs_90 I20) (congrArg ov_r (rg_90_19 I20)) ?_
          refine ov_blk (ls2 := [(0, ov_r 90), (1, ov_i x), (2, ov_i y), (3, ov_i p), (4, ov_i t), (5, ov_i (60 + (3 * (h 103 58))))]) (st2 := [ov_i p, ov_i ((60 + (3 * (h 103 58))) + 1), ov_r 103]) (pc2 := 85) b_295_80_4 rfl rfl ?_
          refine ov_ifeq (tgt := 92) d_295_85 (by decide) (by omega) (fun c21 => ?_) (fun c21 => ?_)
          · skip
            refine ov_blk (ls2 := [(0, ov_r 90), (1, ov_i x), (2, ov_i y), (3, ov_i p), (4, ov_i t), (5, ov_i (60 + (3 * (h 103 58))))]) (st2 := [ov_i 0, ov_i ((60 + (3 * (h 103 58))) + 1), ov_r 103]) (pc2 := 93) b_295_92_1 rfl rfl ?_
            refine ov_iast d_295_93 (zb_103 I20) (zs_103 I20) (by omega) ?_
            have I22 := ua_103 (k := ((60 + (3 * (h 103 58))) + 1)) (x := 0) I20 (by refine ⟨?_, ?_, ?_, ?_, ?_, ?_⟩ <;> omega)
            refine ov_blk (ls2 := [(0, ov_r 90), (1, ov_i x), (2, ov_i y), (3, ov_i p), (4, ov_i t), (5, ov_i (60 + (3 * (h 103 58))))]) (st2 := [ov_r 90]) (pc2 := 95) b_295_94_1 rfl rfl ?_
            refine ov_getf (v := ov_r 103) d_295_95 fl_Mo_102 (zb_90 I22) (zs_90 I22) (congrArg ov_r (rg_90_19 I22)) ?_
            refine ov_blk (ls2 := [(0, ov_r 90), (1, ov_i x), (2, ov_i y), (3, ov_i p), (4, ov_i t), (5, ov_i (60 + (3 * (h 103 58))))]) (st2 := [ov_i t, ov_i ((60 + (3 * (h 103 58))) + 2), ov_r 103]) (pc2 := 104) b_295_98_4 rfl rfl ?_
            refine ov_iast d_295_104 (zb_103 I22) (zs_103 I22) (by omega) ?_
            have I23 := ua_103 (k := ((60 + (3 * (h 103 58))) + 2)) (x := t) I22 (by refine ⟨?_, ?_, ?_, ?_, ?_, ?_⟩ <;> omega)
            refine ov_blk (ls2 := [(0, ov_r 90), (1, ov_i x), (2, ov_i y), (3, ov_i p), (4, ov_i t), (5, ov_i (60 + (3 * (h 103 58))))]) (st2 := [ov_r 90]) (pc2 := 106) b_295_105_1 rfl rfl ?_
            refine ov_getf (v := ov_r 103) d_295_106 fl_Mo_102 (zb_90 I23) (zs_90 I23) (congrArg ov_r (rg_90_19 I23)) ?_
            refine ov_blk (ls2 := [(0, ov_r 90), (1, ov_i x), (2, ov_i y), (3, ov_i p), (4, ov_i t), (5, ov_i (60 + (3 * (h 103 58))))]) (st2 := [ov_i 58, ov_r 103, ov_i 58, ov_r 103]) (pc2 := 112) b_295_109_2 rfl rfl ?_
            refine ov_iald d_295_112 (zb_103 I23) (zs_103 I23) (by omega) ?_
            show ov_R u d ov_m295 113 [(0, ov_r 90), (1, ov_i x), (2, ov_i y), (3, ov_i p), (4, ov_i t), (5, ov_i (60 + (3 * (h 103 58))))] [ov_i ((ov_up (ov_up (ov_up (ov_up h 90 0 0) 103 (60 + (3 * (h 103 58))) ((6 * y) + x)) 103 ((60 + (3 * (h 103 58))) + 1) 0) 103 ((60 + (3 * (h 103 58))) + 2) t) 103 58), ov_i 58, ov_r 103] z (ov_up (ov_up (ov_up (ov_up h 90 0 0) 103 (60 + (3 * (h 103 58))) ((6 * y) + x)) 103 ((60 + (3 * (h 103 58))) + 1) 0) 103 ((60 + (3 * (h 103 58))) + 2) t) (P_Mo_tried_90 F z h x y p t)
            have hh58 : ((ov_up (ov_up (ov_up (ov_up h 90 0 0) 103 (60 + (3 * (h 103 58))) ((6 * y) + x)) 103 ((60 + (3 * (h 103 58))) + 1) 0) 103 ((60 + (3 * (h 103 58))) + 2) t) 103 58) = h 103 58 := by rw [ov_up_j (by omega)]; rw [ov_up_j (by omega)]; rw [ov_up_j (by omega)]; rfl
            refine ov_blk (ls2 := [(0, ov_r 90), (1, ov_i x), (2, ov_i y), (3, ov_i p), (4, ov_i t), (5, ov_i (60 + (3 * (h 103 58))))]) (st2 := [ov_i (((ov_up (ov_up (ov_up (ov_up h 90 0 0) 103 (60 + (3 * (h 103 58))) ((6 * y) + x)) 103 ((60 + (3 * (h 103 58))) + 1) 0) 103 ((60 + (3 * (h 103 58))) + 2) t) 103 58) + 1), ov_i 58, ov_r 103]) (pc2 := 115) b_295_113_2 rfl rfl ?_
            refine ov_iast d_295_115 (zb_103 I23) (zs_103 I23) (by omega) ?_
            have I24 := ua_103 (k := 58) (x := (((ov_up (ov_up (ov_up (ov_up h 90 0 0) 103 (60 + (3 * (h 103 58))) ((6 * y) + x)) 103 ((60 + (3 * (h 103 58))) + 1) 0) 103 ((60 + (3 * (h 103 58))) + 2) t) 103 58) + 1)) I23 (by refine ⟨?_, ?_, ?_, ?_, ?_, ?_⟩ <;> omega)
            refine ov_blk (ls2 := [(0, ov_r 90), (1, ov_i x), (2, ov_i y), (3, ov_i p), (4, ov_i t), (5, ov_i (60 + (3 * (h 103 58))))]) (st2 := [ov_i 1]) (pc2 := 117) b_295_116_1 rfl rfl ?_
            exact ov_retz (st := []) d_295_117 rfl (by omega) ⟨_, rfl, I24, ⟨rfl, rfl, rfl, rfl, rfl, rfl, rfl, rfl, rfl, rfl, rfl, rfl, (by show (1 = 0 ∨ 1 = 1); omega)⟩, rfl, rfl, rfl, rfl, rfl, rfl, rfl, rfl, rfl, rfl, rfl, rfl, rfl, rfl, rfl, (fun j h1 h2 => by show (ov_up (ov_up (ov_up (ov_up (ov_up h 90 0 0) 103 (60 + (3 * (h 103 58))) ((6 * y) + x)) 103 ((60 + (3 * (h 103 58))) + 1) 0) 103 ((60 + (3 * (h 103 58))) + 2) t) 103 58 (((ov_up (ov_up (ov_up (ov_up h 90 0 0) 103 (60 + (3 * (h 103 58))) ((6 * y) + x)) 103 ((60 + (3 * (h 103 58))) + 1) 0) 103 ((60 + (3 * (h 103 58))) + 2) t) 103 58) + 1)) 103 j = h 103 j; rw [ov_up_j (by omega)]; rw [ov_up_j (by omega)]; rw [ov_up_j (by omega)]; rw [ov_up_j (by omega)]; rw [ov_up_ne (by decide)])⟩
          · skip
            refine ov_blk (ls2 := [(0, ov_r 90), (1, ov_i x), (2, ov_i y), (3, ov_i p), (4, ov_i t), (5, ov_i (60 + (3 * (h 103 58))))]) (st2 := [ov_i 1, ov_i ((60 + (3 * (h 103 58))) + 1), ov_r 103]) (pc2 := 89) b_295_88_1 rfl rfl ?_
            refine ov_goto (tgt := 93) d_295_89 (by decide) ?_
            refine ov_iast d_295_93 (zb_103 I20) (zs_103 I20) (by omega) ?_
            have I25 := ua_103 (k := ((60 + (3 * (h 103 58))) + 1)) (x := 1) I20 (by refine ⟨?_, ?_, ?_, ?_, ?_, ?_⟩ <;> omega)
            refine ov_blk (ls2 := [(0, ov_r 90), (1, ov_i x), (2, ov_i y), (3, ov_i p), (4, ov_i t), (5, ov_i (60 + (3 * (h 103 58))))]) (st2 := [ov_r 90]) (pc2 := 95) b_295_94_1 rfl rfl ?_
            refine ov_getf (v := ov_r 103) d_295_95 fl_Mo_102 (zb_90 I25) (zs_90 I25) (congrArg ov_r (rg_90_19 I25)) ?_
            refine ov_blk (ls2 := [(0, ov_r 90), (1, ov_i x), (2, ov_i y), (3, ov_i p), (4, ov_i t), (5, ov_i (60 + (3 * (h 103 58))))]) (st2 := [ov_i t, ov_i ((60 + (3 * (h 103 58))) + 2), ov_r 103]) (pc2 := 104) b_295_98_4 rfl rfl ?_
            refine ov_iast d_295_104 (zb_103 I25) (zs_103 I25) (by omega) ?_
            have I26 := ua_103 (k := ((60 + (3 * (h 103 58))) + 2)) (x := t) I25 (by refine ⟨?_, ?_, ?_, ?_, ?_, ?_⟩ <;> omega)
            refine ov_blk (ls2 := [(0, ov_r 90), (1, ov_i x), (2, ov_i y), (3, ov_i p), (4, ov_i t), (5, ov_i (60 + (3 * (h 103 58))))]) (st2 := [ov_r 90]) (pc2 := 106) b_295_105_1 rfl rfl ?_
            refine ov_getf (v := ov_r 103) d_295_106 fl_Mo_102 (zb_90 I26) (zs_90 I26) (congrArg ov_r (rg_90_19 I26)) ?_
            refine ov_blk (ls2 := [(0, ov_r 90), (1, ov_i x), (2, ov_i y), (3, ov_i p), (4, ov_i t), (5, ov_i (60 + (3 * (h 103 58))))]) (st2 := [ov_i 58, ov_r 103, ov_i 58, ov_r 103]) (pc2 := 112) b_295_109_2 rfl rfl ?_
            refine ov_iald d_295_112 (zb_103 I26) (zs_103 I26) (by omega) ?_
            show ov_R u d ov_m295 113 [(0, ov_r 90), (1, ov_i x), (2, ov_i y), (3, ov_i p), (4, ov_i t), (5, ov_i (60 + (3 * (h 103 58))))] [ov_i ((ov_up (ov_up (ov_up (ov_up h 90 0 0) 103 (60 + (3 * (h 103 58))) ((6 * y) + x)) 103 ((60 + (3 * (h 103 58))) + 1) 1) 103 ((60 + (3 * (h 103 58))) + 2) t) 103 58), ov_i 58, ov_r 103] z (ov_up (ov_up (ov_up (ov_up h 90 0 0) 103 (60 + (3 * (h 103 58))) ((6 * y) + x)) 103 ((60 + (3 * (h 103 58))) + 1) 1) 103 ((60 + (3 * (h 103 58))) + 2) t) (P_Mo_tried_90 F z h x y p t)
            have hh58 : ((ov_up (ov_up (ov_up (ov_up h 90 0 0) 103 (60 + (3 * (h 103 58))) ((6 * y) + x)) 103 ((60 + (3 * (h 103 58))) + 1) 1) 103 ((60 + (3 * (h 103 58))) + 2) t) 103 58) = h 103 58 := by rw [ov_up_j (by omega)]; rw [ov_up_j (by omega)]; rw [ov_up_j (by omega)]; rfl
            refine ov_blk (ls2 := [(0, ov_r 90), (1, ov_i x), (2, ov_i y), (3, ov_i p), (4, ov_i t), (5, ov_i (60 + (3 * (h 103 58))))]) (st2 := [ov_i (((ov_up (ov_up (ov_up (ov_up h 90 0 0) 103 (60 + (3 * (h 103 58))) ((6 * y) + x)) 103 ((60 + (3 * (h 103 58))) + 1) 1) 103 ((60 + (3 * (h 103 58))) + 2) t) 103 58) + 1), ov_i 58, ov_r 103]) (pc2 := 115) b_295_113_2 rfl rfl ?_
            refine ov_iast d_295_115 (zb_103 I26) (zs_103 I26) (by omega) ?_
            have I27 := ua_103 (k := 58) (x := (((ov_up (ov_up (ov_up (ov_up h 90 0 0) 103 (60 + (3 * (h 103 58))) ((6 * y) + x)) 103 ((60 + (3 * (h 103 58))) + 1) 1) 103 ((60 + (3 * (h 103 58))) + 2) t) 103 58) + 1)) I26 (by refine ⟨?_, ?_, ?_, ?_, ?_, ?_⟩ <;> omega)
            refine ov_blk (ls2 := [(0, ov_r 90), (1, ov_i x), (2, ov_i y), (3, ov_i p), (4, ov_i t), (5, ov_i (60 + (3 * (h 103 58))))]) (st2 := [ov_i 1]) (pc2 := 117) b_295_116_1 rfl rfl ?_
            exact ov_retz (st := []) d_295_117 rfl (by omega) ⟨_, rfl, I27, ⟨rfl, rfl, rfl, rfl, rfl, rfl, rfl, rfl, rfl, rfl, rfl, rfl, (by show (1 = 0 ∨ 1 = 1); omega)⟩, rfl, rfl, rfl, rfl, rfl, rfl, rfl, rfl, rfl, rfl, rfl, rfl, rfl, rfl, rfl, (fun j h1 h2 => by show (ov_up (ov_up (ov_up (ov_up (ov_up h 90 0 0) 103 (60 + (3 * (h 103 58))) ((6 * y) + x)) 103 ((60 + (3 * (h 103 58))) + 1) 1) 103 ((60 + (3 * (h 103 58))) + 2) t) 103 58 (((ov_up (ov_up (ov_up (ov_up h 90 0 0) 103 (60 + (3 * (h 103 58))) ((6 * y) + x)) 103 ((60 + (3 * (h 103 58))) + 1) 1) 103 ((60 + (3 * (h 103 58))) + 2) t) 103 58) + 1)) 103 j = h 103 j; rw [ov_up_j (by omega)]; rw [ov_up_j (by omega)]; rw [ov_up_j (by omega)]; rw [ov_up_j (by omega)]; rw [ov_up_ne (by decide)])⟩
        · skip
          refine ov_blk (ls2 := [(0, ov_r 90), (1, ov_i x), (2, ov_i y), (3, ov_i p), (4, ov_i t)]) (st2 := [ov_i 0]) (pc2 := 48) b_295_47_1 rfl rfl ?_
          exact ov_retz (st := []) d_295_48 rfl (by omega) ⟨_, rfl, I1, ⟨rfl, rfl, rfl, rfl, rfl, rfl, rfl, rfl, rfl, rfl, rfl, rfl, (by show (0 = 0 ∨ 0 = 1); omega)⟩, rfl, rfl, rfl, rfl, rfl, rfl, rfl, rfl, rfl, rfl, rfl, rfl, rfl, rfl, rfl, (fun j h1 h2 => rfl)⟩
abbrev P_Mo_was_90 (F : ov_H × ov_Z) (z : ov_Z) (h : ov_H) (x : Int) (y : Int) (t : Int) : Option ov_V → ov_Z → ov_H → Prop := fun r0 z' h' => ∃ r : Int, r0 = some (ov_i r) ∧ ov_N F z' h' ∧ ((h' 90 2) = (h 90 2) ∧ (h' 90 7) = (h 90 7) ∧ (h' 90 8) = (h 90 8) ∧ (h' 90 13) = (h 90 13) ∧ (h' 90 20) = (h 90 20) ∧ (h' 90 22) = (h 90 22) ∧ (h' 90 25) = (h 90 25) ∧ (h' 90 26) = (h 90 26) ∧ (h' 90 28) = (h 90 28) ∧ (h' 90 29) = (h 90 29) ∧ (h' 90 30) = (h 90 30) ∧ (h' 90 34) = (h 90 34) ∧ (r = 0 ∨ r = 1)) ∧ h' 91 = h 91 ∧ h' 92 = h 92 ∧ h' 93 = h 93 ∧ h' 94 = h 94 ∧ h' 95 = h 95 ∧ h' 96 = h 96 ∧ h' 97 = h 97 ∧ h' 98 = h 98 ∧ h' 99 = h 99 ∧ h' 100 = h 100 ∧ h' 104 = h 104 ∧ h' 105 = h 105 ∧ h' 106 = h 106 ∧ h' 109 = h 109 ∧ h' 114 = h 114 ∧ (∀ j : Int, 4 ≤ j → j ≤ 57 → (h' 103) j = (h 103) j)
set_option maxHeartbeats 4000000 in
theorem c_Mo_was_90 {u : ov_U} {F : ov_H × ov_Z} {z : ov_Z} {h : ov_H} (d : Nat) (hd : 2 ≤ d) (U : ov_cap u) (I : ov_N F z h) (x : Int) (y : Int) (t : Int) (g_x : ov_g x) (g_y : ov_g y) (g_t : ov_g t) : ov_T u d ov_m302 [ov_r 90, ov_i x, ov_i y, ov_i t] z h (P_Mo_was_90 F z h x y t) := by
  refine ov_en rfl (Nat.le_of_ble_eq_true rfl) ?_
  show ov_R u d ov_m302 0 [(0, ov_r 90), (1, ov_i x), (2, ov_i y), (3, ov_i t)] [] z h (P_Mo_was_90 F z h x y t)
  have t0 := t96_0 I
  have t1 := t96_1 I
  refine ov_blk (ls2 := [(0, ov_r 90), (1, ov_i x), (2, ov_i y), (3, ov_i t)]) (st2 := [ov_i 0, ov_r 90]) (pc2 := 2) b_302_0_2 rfl rfl ?_
  refine ov_putf (x := 0) d_302_2 fl_Mo_1 (zb_90 I) (zs_90 I) rfl nk_0 rfl ?_
  have I1 := up_90_0 (x := 0) I (by omega)
  refine ov_blk (ls2 := [(0, ov_r 90), (1, ov_i x), (2, ov_i y), (3, ov_i t)]) (st2 := [ov_i y, ov_i x, ov_r 90]) (pc2 := 8) b_302_5_3 rfl rfl ?_
  refine ov_cV (as := [ov_i x, ov_i y]) (st := []) (d2 := d - 1) d_302_8 lk_Mo_296 rfl (Nat.le_of_ble_eq_true rfl) (c := 1) (zb_90 I1) (zs_90 I1) ⟨by decide, rfl⟩ (by omega) (c_Mo_isCorner_90 (d - 1) (by omega) U I1 x y (by omega) (by omega)) ?_
  rintro _ _ _ ⟨v3, rfl, rfl, rfl, f2⟩
  show ov_R u d ov_m302 11 [(0, ov_r 90), (1, ov_i x), (2, ov_i y), (3, ov_i t)] [ov_i v3] z (ov_up h 90 0 0) (P_Mo_was_90 F z h x y t)
  have f4 : (v3 = 0 ∨ v3 = 1) ∧ (v3 = 1 → 0 ≤ x ∧ x ≤ 5 ∧ 0 ≤ y ∧ y ≤ 8 ∧ x < (h 96 0) ∧ y < (h 96 1)) := f2
  clear f2
  refine ov_ifeq (tgt := 37) d_302_11 (by decide) (by omega) (fun c5 => ?_) (fun c5 => ?_)
  · skip
    have f4_ : v3 = 0 := by omega
    clear f4
    refine ov_blk (ls2 := [(0, ov_r 90), (1, ov_i x), (2, ov_i y), (3, ov_i t)]) (st2 := [ov_i 0]) (pc2 := 38) b_302_37_1 rfl rfl ?_
    exact ov_retz (st := []) d_302_38 rfl (by omega) ⟨_, rfl, I1, ⟨rfl, rfl, rfl, rfl, rfl, rfl, rfl, rfl, rfl, rfl, rfl, rfl, (by show (0 = 0 ∨ 0 = 1); omega)⟩, rfl, rfl, rfl, rfl, rfl, rfl, rfl, rfl, rfl, rfl, rfl, rfl, rfl, rfl, rfl, (fun j h1 h2 => rfl)⟩
  · skip
    have f4_ : v3 = 1 := by omega
    have f6 : 0 ≤ x ∧ x ≤ 5 ∧ 0 ≤ y ∧ y ≤ 8 ∧ x < (h 96 0) ∧ y < (h 96 1) := f4.2 (by omega)
    clear f4
    refine ov_blk (ls2 := [(0, ov_r 90), (1, ov_i x), (2, ov_i y), (3, ov_i t)]) (st2 := [ov_i 9999, ov_i 0, ov_i t]) (pc2 := 19) b_302_14_3 rfl rfl ?_
    refine ov_cS (as := [ov_i t, ov_i 0, ov_i 9999]) (st := []) (d2 := d - 1) d_302_19 lk_Mo_299 rfl (Nat.le_of_ble_eq_true rfl) (by omega) (c_Mo_within (d - 1) (by omega) U I1 t 0 9999 (by omega) (by omega) (by omega)) ?_
    rintro _ _ _ ⟨v8, rfl, rfl, rfl, f7⟩
    show ov_R u d ov_m302 22 [(0, ov_r 90), (1, ov_i x), (2, ov_i y), (3, ov_i t)] [ov_i v8] z (ov_up h 90 0 0) (P_Mo_was_90 F z h x y t)
    have f9 : (v8 = 0 ∨ v8 = 1) ∧ (v8 = 1 → (0 : Int) ≤ t ∧ t ≤ (9999 : Int)) ∧ (v8 = 0 → t < (0 : Int) ∨ (9999 : Int) < t) := f7
    clear f7
    refine ov_ifeq (tgt := 37) d_302_22 (by decide) (by omega) (fun c10 => ?_) (fun c10 => ?_)
    · skip
      have f9_ : v8 = 0 := by omega
      have f11 : t < (0 : Int) ∨ (9999 : Int) < t := f9.2.2 (by omega)
      clear f9
      refine ov_blk (ls2 := [(0, ov_r 90), (1, ov_i x), (2, ov_i y), (3, ov_i t)]) (st2 := [ov_i 0]) (pc2 := 38) b_302_37_1 rfl rfl ?_
      exact ov_retz (st := []) d_302_38 rfl (by omega) ⟨_, rfl, I1, ⟨rfl, rfl, rfl, rfl, rfl, rfl, rfl, rfl, rfl, rfl, rfl, rfl, (by show (0 = 0 ∨ 0 = 1); omega)⟩, rfl, rfl, rfl, rfl, rfl, rfl, rfl, rfl, rfl, rfl, rfl, rfl, rfl, rfl, rfl, (fun j h1 h2 => rfl)⟩
    · skip
      have f9_ : v8 = 1 := by omega
      have f12 : (0 : Int) ≤ t ∧ t ≤ (9999 : Int) := f9.2.1 (by omega)
      clear f9
      refine ov_blk (ls2 := [(0, ov_r 90), (1, ov_i x), (2, ov_i y), (3, ov_i t)]) (st2 := [ov_r 90]) (pc2 := 26) b_302_25_1 rfl rfl ?_
      refine ov_getf (v := ov_r 103) d_302_26 fl_Mo_102 (zb_90 I1) (zs_90 I1) (congrArg ov_r (rg_90_19 I1)) ?_
      refine ov_blk (ls2 := [(0, ov_r 90), (1, ov_i x), (2, ov_i y), (3, ov_i t)]) (st2 := [ov_i 59, ov_r 103]) (pc2 := 31) b_302_29_1 rfl rfl ?_
      refine ov_iald d_302_31 (zb_103 I1) (zs_103 I1) (by omega) ?_
      show ov_R u d ov_m302 32 [(0, ov_r 90), (1, ov_i x), (2, ov_i y), (3, ov_i t)] [ov_i (h 103 59)] z (ov_up h 90 0 0) (P_Mo_was_90 F z h x y t)
      have g13 := s103_59 I
      refine ov_blk (ls2 := [(0, ov_r 90), (1, ov_i x), (2, ov_i y), (3, ov_i t)]) (st2 := [ov_i 8, ov_i (h 103 59)]) (pc2 := 34) b_302_32_1 rfl rfl ?_
      refine ov_icne (tgt := 39) d_302_34 (by decide) (by omega) (by omega) (fun c14 => ?_) (fun c14 => ?_)
      · skip
        refine ov_blk (ls2 := [(0, ov_r 90), (1, ov_i x), (2, ov_i y), (3, ov_i t)]) (st2 := [ov_r 90, ov_i 3, ov_i 92]) (pc2 := 43) b_302_39_3 rfl rfl ?_
        refine ov_getf (v := ov_r 103) d_302_43 fl_Mo_102 (zb_90 I1) (zs_90 I1) (congrArg ov_r (rg_90_19 I1)) ?_
        refine ov_blk (ls2 := [(0, ov_r 90), (1, ov_i x), (2, ov_i y), (3, ov_i t)]) (st2 := [ov_i 59, ov_r 103, ov_i 3, ov_i 92]) (pc2 := 48) b_302_46_1 rfl rfl ?_
        refine ov_iald d_302_48 (zb_103 I1) (zs_103 I1) (by omega) ?_
        show ov_R u d ov_m302 49 [(0, ov_r 90), (1, ov_i x), (2, ov_i y), (3, ov_i t)] [ov_i (h 103 59), ov_i 3, ov_i 92] z (ov_up h 90 0 0) (P_Mo_was_90 F z h x y t)
        refine ov_blk (ls2 := [(0, ov_r 90), (1, ov_i x), (2, ov_i y), (3, ov_i t), (4, ov_i (92 + (3 * (h 103 59))))]) (st2 := [ov_r 90]) (pc2 := 54) b_302_49_4 rfl rfl ?_
        refine ov_getf (v := ov_r 103) d_302_54 fl_Mo_102 (zb_90 I1) (zs_90 I1) (congrArg ov_r (rg_90_19 I1)) ?_
        refine ov_blk (ls2 := [(0, ov_r 90), (1, ov_i x), (2, ov_i y), (3, ov_i t), (4, ov_i (92 + (3 * (h 103 59))))]) (st2 := [ov_i x, ov_i (92 + (3 * (h 103 59))), ov_r 103]) (pc2 := 60) b_302_57_2 rfl rfl ?_
        refine ov_iast d_302_60 (zb_103 I1) (zs_103 I1) (by omega) ?_
        have I16 := ua_103 (k := (92 + (3 * (h 103 59)))) (x := x) I1 (by refine ⟨?_, ?_, ?_, ?_, ?_, ?_⟩ <;> omega)
        refine ov_blk (ls2 := [(0, ov_r 90), (1, ov_i x), (2, ov_i y), (3, ov_i t), (4, ov_i (92 + (3 * (h 103 59))))]) (st2 := [ov_r 90]) (pc2 := 62) b_302_61_1 rfl rfl ?_
        refine ov_getf (v := ov_r 103) d_302_62 fl_Mo_102 (zb_90 I16) (zs_90 I16) (congrArg ov_r (rg_90_19 I16)) ?_
        refine ov_blk (ls2 := [(0, ov_r 90), (1, ov_i x), (2, ov_i y), (3, ov_i t), (4, ov_i (92 + (3 * (h 103 59))))]) (st2 := [ov_i y, ov_i ((92 + (3 * (h 103 59))) + 1), ov_r 103]) (pc2 := 70) b_302_65_4 rfl rfl ?_
        refine ov_iast d_302_70 (zb_103 I16) (zs_103 I16) (by omega) ?_
        have I17 := ua_103 (k := ((92 + (3 * (h 103 59))) + 1)) (x := y) I16 (by refine ⟨?_, ?_, ?_, ?_, ?_, ?_⟩ <;> omega)
        refine ov_blk (ls2 := [(0, ov_r 90), (1, ov_i x), (2, ov_i y), (3, ov_i t), (4, ov_i (92 + (3 * (h 103 59))))]) (st2 := [ov_r 90]) (pc2 := 72) b_302_71_1 rfl rfl ?_
        refine ov_getf (v := ov_r 103) d_302_72 fl_Mo_102 (zb_90 I17) (zs_90 I17) (congrArg ov_r (rg_90_19 I17)) ?_
        refine ov_blk (ls2 := [(0, ov_r 90), (1, ov_i x), (2, ov_i y), (3, ov_i t), (4, ov_i (92 + (3 * (h 103 59))))]) (st2 := [ov_i t, ov_i ((92 + (3 * (h 103 59))) + 2), ov_r 103]) (pc2 := 80) b_302_75_4 rfl rfl ?_
        refine ov_iast d_302_80 (zb_103 I17) (zs_103 I17) (by omega) ?_
        have I18 := ua_103 (k := ((92 + (3 * (h 103 59))) + 2)) (x := t) I17 (by refine ⟨?_, ?_, ?_, ?_, ?_, ?_⟩ <;> omega)
        refine ov_blk (ls2 := [(0, ov_r 90), (1, ov_i x), (2, ov_i y), (3, ov_i t), (4, ov_i (92 + (3 * (h 103 59))))]) (st2 := [ov_r 90]) (pc2 := 82) b_302_81_1 rfl rfl ?_
        refine ov_getf (v := ov_r 103) d_302_82 fl_Mo_102 (zb_90 I18) (zs_90 I18) (congrArg ov_r (rg_90_19 I18)) ?_
        refine ov_blk (ls2 := [(0, ov_r 90), (1, ov_i x), (2, ov_i y), (3, ov_i t), (4, ov_i (92 + (3 * (h 103 59))))]) (st2 := [ov_i 59, ov_r 103, ov_i 59, ov_r 103]) (pc2 := 88) b_302_85_2 rfl rfl ?_
        refine ov_iald d_302_88 (zb_103 I18) (zs_103 I18) (by omega) ?_
        show ov_R u d ov_m302 89 [(0, ov_r 90), (1, ov_i x), (2, ov_i y), (3, ov_i t), (4, ov_i (92 + (3 * (h 103 59))))] [ov_i ((ov_up (ov_up (ov_up (ov_up h 90 0 0) 103 (92 + (3 * (h 103 59))) x) 103 ((92 + (3 * (h 103 59))) + 1) y) 103 ((92 + (3 * (h 103 59))) + 2) t) 103 59), ov_i 59, ov_r 103] z (ov_up (ov_up (ov_up (ov_up h 90 0 0) 103 (92 + (3 * (h 103 59))) x) 103 ((92 + (3 * (h 103 59))) + 1) y) 103 ((92 + (3 * (h 103 59))) + 2) t) (P_Mo_was_90 F z h x y t)
        have hh58 : ((ov_up (ov_up (ov_up (ov_up h 90 0 0) 103 (92 + (3 * (h 103 59))) x) 103 ((92 + (3 * (h 103 59))) + 1) y) 103 ((92 + (3 * (h 103 59))) + 2) t) 103 59) = h 103 59 := by rw [ov_up_j (by omega)]; rw [ov_up_j (by omega)]; rw [ov_up_j (by omega)]; rfl
        refine ov_blk (ls2 := [(0, ov_r 90), (1, ov_i x), (2, ov_i y), (3, ov_i t), (4, ov_i (92 + (3 * (h 103 59))))]) (st2 := [ov_i (((ov_up (ov_up (ov_up (ov_up h 90 0 0) 103 (92 + (3 * (h 103 59))) x) 103 ((92 + (3 * (h 103 59))) + 1) y) 103 ((92 + (3 * (h 103 59))) + 2) t) 103 59) + 1), ov_i 59, ov_r 103]) (pc2 := 91) b_302_89_2 rfl rfl ?_
        refine ov_iast d_302_91 (zb_103 I18) (zs_103 I18) (by omega) ?_
        have I19 := ua_103 (k := 59) (x := (((ov_up (ov_up (ov_up (ov_up h 90 0 0) 103 (92 + (3 * (h 103 59))) x) 103 ((92 + (3 * (h 103 59))) + 1) y) 103 ((92 + (3 * (h 103 59))) + 2) t) 103 59) + 1)) I18 (by refine ⟨?_, ?_, ?_, ?_, ?_, ?_⟩ <;> omega)
        refine ov_blk (ls2 := [(0, ov_r 90), (1, ov_i x), (2, ov_i y), (3, ov_i t), (4, ov_i (92 + (3 * (h 103 59))))]) (st2 := [ov_i 1]) (pc2 := 93) b_302_92_1 rfl rfl ?_
        exact ov_retz (st := []) d_302_93 rfl (by omega) ⟨_, rfl, I19, ⟨rfl, rfl, rfl, rfl, rfl, rfl, rfl, rfl, rfl, rfl, rfl, rfl, (by show (1 = 0 ∨ 1 = 1); omega)⟩, rfl, rfl, rfl, rfl, rfl, rfl, rfl, rfl, rfl, rfl, rfl, rfl, rfl, rfl, rfl, (fun j h1 h2 => by show (ov_up (ov_up (ov_up (ov_up (ov_up h 90 0 0) 103 (92 + (3 * (h 103 59))) x) 103 ((92 + (3 * (h 103 59))) + 1) y) 103 ((92 + (3 * (h 103 59))) + 2) t) 103 59 (((ov_up (ov_up (ov_up (ov_up h 90 0 0) 103 (92 + (3 * (h 103 59))) x) 103 ((92 + (3 * (h 103 59))) + 1) y) 103 ((92 + (3 * (h 103 59))) + 2) t) 103 59) + 1)) 103 j = h 103 j; rw [ov_up_j (by omega)]; rw [ov_up_j (by omega)]; rw [ov_up_j (by omega)]; rw [ov_up_j (by omega)]; rw [ov_up_ne (by decide)])⟩
      · skip
        refine ov_blk (ls2 := [(0, ov_r 90), (1, ov_i x), (2, ov_i y), (3, ov_i t)]) (st2 := [ov_i 0]) (pc2 := 38) b_302_37_1 rfl rfl ?_
        exact ov_retz (st := []) d_302_38 rfl (by omega) ⟨_, rfl, I1, ⟨rfl, rfl, rfl, rfl, rfl, rfl, rfl, rfl, rfl, rfl, rfl, rfl, (by show (0 = 0 ∨ 0 = 1); omega)⟩, rfl, rfl, rfl, rfl, rfl, rfl, rfl, rfl, rfl, rfl, rfl, rfl, rfl, rfl, rfl, (fun j h1 h2 => rfl)⟩
abbrev P_Mo_does_90 (F : ov_H × ov_Z) (z : ov_Z) (h : ov_H) (x : Int) (y : Int) (m : Int) : Option ov_V → ov_Z → ov_H → Prop := fun r0 z' h' => ∃ r : Int, r0 = some (ov_l r) ∧ ov_N F z' h' ∧ ((h' 90 2) = (h 90 2) ∧ (h' 90 7) = (h 90 7) ∧ (h' 90 8) = (h 90 8) ∧ (h' 90 13) = (h 90 13) ∧ (h' 90 20) = (h 90 20) ∧ (h' 90 22) = (h 90 22) ∧ (h' 90 25) = (h 90 25) ∧ (h' 90 26) = (h 90 26) ∧ (h' 90 28) = (h 90 28) ∧ (h' 90 29) = (h 90 29) ∧ (h' 90 30) = (h 90 30) ∧ (h' 90 34) = (h 90 34)) ∧ h' 91 = h 91 ∧ h' 92 = h 92 ∧ h' 93 = h 93 ∧ h' 94 = h 94 ∧ h' 95 = h 95 ∧ h' 96 = h 96 ∧ h' 97 = h 97 ∧ h' 98 = h 98 ∧ h' 99 = h 99 ∧ h' 100 = h 100 ∧ h' 103 = h 103 ∧ h' 104 = h 104 ∧ h' 105 = h 105 ∧ h' 106 = h 106 ∧ h' 109 = h 109 ∧ h' 114 = h 114
set_option maxHeartbeats 4000000 in
theorem c_Mo_does_90 {u : ov_U} {F : ov_H × ov_Z} {z : ov_Z} {h : ov_H} (d : Nat) (hd : 2 ≤ d) (U : ov_cap u) (I : ov_N F z h) (x : Int) (y : Int) (m : Int) (g_x : ov_g x) (g_y : ov_g y) (g_m : ov_g m) (W : ov_WT (h 96)) : ov_T u d ov_m296 [ov_r 90, ov_i x, ov_i y, ov_i m] z h (P_Mo_does_90 F z h x y m) := by
  refine ov_en rfl (Nat.le_of_ble_eq_true rfl) ?_
  show ov_R u d ov_m296 0 [(0, ov_r 90), (1, ov_i x), (2, ov_i y), (3, ov_i m)] [] z h (P_Mo_does_90 F z h x y m)
  have t0 := t96_0 I
  have t1 := t96_1 I
  refine ov_blk (ls2 := [(0, ov_r 90), (1, ov_i x), (2, ov_i y), (3, ov_i m)]) (st2 := [ov_i 0, ov_r 90]) (pc2 := 2) b_296_0_2 rfl rfl ?_
  refine ov_putf (x := 0) d_296_2 fl_Mo_1 (zb_90 I) (zs_90 I) rfl nk_0 rfl ?_
  have I1 := up_90_0 (x := 0) I (by omega)
  refine ov_blk (ls2 := [(0, ov_r 90), (1, ov_i x), (2, ov_i y), (3, ov_i m)]) (st2 := [ov_i y, ov_i x, ov_r 90]) (pc2 := 8) b_296_5_3 rfl rfl ?_
  refine ov_cV (as := [ov_i x, ov_i y]) (st := []) (d2 := d - 1) d_296_8 lk_Mo_296 rfl (Nat.le_of_ble_eq_true rfl) (c := 1) (zb_90 I1) (zs_90 I1) ⟨by decide, rfl⟩ (by omega) (c_Mo_isCorner_90 (d - 1) (by omega) U I1 x y (by omega) (by omega)) ?_
  rintro _ _ _ ⟨v3, rfl, rfl, rfl, f2⟩
  show ov_R u d ov_m296 11 [(0, ov_r 90), (1, ov_i x), (2, ov_i y), (3, ov_i m)] [ov_i v3] z (ov_up h 90 0 0) (P_Mo_does_90 F z h x y m)
  have f4 : (v3 = 0 ∨ v3 = 1) ∧ (v3 = 1 → 0 ≤ x ∧ x ≤ 5 ∧ 0 ≤ y ∧ y ≤ 8 ∧ x < (h 96 0) ∧ y < (h 96 1)) := f2
  clear f2
  refine ov_ifeq (tgt := 33) d_296_11 (by decide) (by omega) (fun c5 => ?_) (fun c5 => ?_)
  · skip
    have f4_ : v3 = 0 := by omega
    clear f4
    refine ov_ldc2 (n := (-1)) d_296_33 kc_Mo_433 ?_
    exact ov_retl (st := []) d_296_36 rfl ⟨_, rfl, I1, ⟨rfl, rfl, rfl, rfl, rfl, rfl, rfl, rfl, rfl, rfl, rfl, rfl⟩, rfl, rfl, rfl, rfl, rfl, rfl, rfl, rfl, rfl, rfl, rfl, rfl, rfl, rfl, rfl, rfl⟩
  · skip
    have f4_ : v3 = 1 := by omega
    have f6 : 0 ≤ x ∧ x ≤ 5 ∧ 0 ≤ y ∧ y ≤ 8 ∧ x < (h 96 0) ∧ y < (h 96 1) := f4.2 (by omega)
    clear f4
    refine ov_blk (ls2 := [(0, ov_r 90), (1, ov_i x), (2, ov_i y), (3, ov_i m)]) (st2 := [ov_i y, ov_i x, ov_r 90]) (pc2 := 17) b_296_14_3 rfl rfl ?_
    refine ov_cV (as := [ov_i x, ov_i y]) (st := []) (d2 := d - 1) d_296_17 lk_Mo_282 rfl (Nat.le_of_ble_eq_true rfl) (c := 1) (zb_90 I1) (zs_90 I1) ⟨by decide, rfl⟩ (by omega) (c_Mo_kindAt_90 (d - 1) (by omega) U I1 x y (by omega) (by omega) (by omega)) ?_
    rintro _ _ _ ⟨v8, rfl, rfl, rfl, f7⟩
    show ov_R u d ov_m296 20 [(0, ov_r 90), (1, ov_i x), (2, ov_i y), (3, ov_i m)] [ov_i v8] z (ov_up h 90 0 0) (P_Mo_does_90 F z h x y m)
    have f9 : v8 = (h 96 (10 + 4 * (6 * y + x))) - 1 ∧ -1 ≤ v8 ∧ v8 ≤ 3 := f7
    clear f7
    refine ov_blk (ls2 := [(0, ov_r 90), (1, ov_i x), (2, ov_i y), (3, ov_i m)]) (st2 := [ov_i 2, ov_i v8]) (pc2 := 21) b_296_20_1 rfl rfl ?_
    refine ov_icne (tgt := 33) d_296_21 (by decide) (by omega) (by omega) (fun c10 => ?_) (fun c10 => ?_)
    · skip
      refine ov_ldc2 (n := (-1)) d_296_33 kc_Mo_433 ?_
      exact ov_retl (st := []) d_296_36 rfl ⟨_, rfl, I1, ⟨rfl, rfl, rfl, rfl, rfl, rfl, rfl, rfl, rfl, rfl, rfl, rfl⟩, rfl, rfl, rfl, rfl, rfl, rfl, rfl, rfl, rfl, rfl, rfl, rfl, rfl, rfl, rfl, rfl⟩
    · skip
      refine ov_blk (ls2 := [(0, ov_r 90), (1, ov_i x), (2, ov_i y), (3, ov_i m)]) (st2 := [ov_i 1, ov_i 0, ov_i m]) (pc2 := 27) b_296_24_3 rfl rfl ?_
      refine ov_cS (as := [ov_i m, ov_i 0, ov_i 1]) (st := []) (d2 := d - 1) d_296_27 lk_Mo_299 rfl (Nat.le_of_ble_eq_true rfl) (by omega) (c_Mo_within (d - 1) (by omega) U I1 m 0 1 (by omega) (by omega) (by omega)) ?_
      rintro _ _ _ ⟨v12, rfl, rfl, rfl, f11⟩
      show ov_R u d ov_m296 30 [(0, ov_r 90), (1, ov_i x), (2, ov_i y), (3, ov_i m)] [ov_i v12] z (ov_up h 90 0 0) (P_Mo_does_90 F z h x y m)
      have f13 : (v12 = 0 ∨ v12 = 1) ∧ (v12 = 1 → (0 : Int) ≤ m ∧ m ≤ (1 : Int)) ∧ (v12 = 0 → m < (0 : Int) ∨ (1 : Int) < m) := f11
      clear f11
      refine ov_ifne (tgt := 37) d_296_30 (by decide) (by omega) (fun c14 => ?_) (fun c14 => ?_)
      · skip
        have f13_ : v12 = 1 := by omega
        have f15 : (0 : Int) ≤ m ∧ m ≤ (1 : Int) := f13.2.1 (by omega)
        clear f13
        refine ov_blk (ls2 := [(0, ov_r 90), (1, ov_i x), (2, ov_i y), (3, ov_i m)]) (st2 := [ov_i 1, ov_i y, ov_i x, ov_r 90]) (pc2 := 41) b_296_37_4 rfl rfl ?_
        refine ov_cV (as := [ov_i x, ov_i y, ov_i 1]) (st := []) (d2 := d - 1) d_296_41 lk_Mo_289 rfl (Nat.le_of_ble_eq_true rfl) (c := 1) (zb_90 I1) (zs_90 I1) ⟨by decide, rfl⟩ (by omega) (c_Mo_lightAt_90 (d - 1) (by omega) U I1 x y 1 (by omega) (by omega) (by omega) (by omega) (by omega)) ?_
        rintro _ _ _ ⟨v17, rfl, rfl, rfl, f16⟩
        show ov_R u d ov_m296 44 [(0, ov_r 90), (1, ov_i x), (2, ov_i y), (3, ov_i m)] [ov_i v17] z (ov_up h 90 0 0) (P_Mo_does_90 F z h x y m)
        have f18 : v17 = (h 96 (10 + 4 * (6 * y + x) + (1 : Int))) ∧ ((1 : Int) = 1 → 0 ≤ v17 ∧ v17 ≤ 60) ∧ ((1 : Int) = 2 → 0 ≤ v17 ∧ v17 ≤ 59) ∧ ((1 : Int) = 3 → 0 ≤ v17 ∧ v17 ≤ 60) := f16
        clear f16
        refine ov_blk (ls2 := [(0, ov_r 90), (1, ov_i x), (2, ov_i y), (3, ov_i m), (4, ov_l (ov_w v17))]) (st2 := [ov_i 2, ov_i y, ov_i x, ov_r 90]) (pc2 := 51) b_296_44_6 rfl rfl ?_
        have g19 := ov_wg v17
        have g20 := ov_wq v17
        refine ov_cV (as := [ov_i x, ov_i y, ov_i 2]) (st := []) (d2 := d - 1) d_296_51 lk_Mo_289 rfl (Nat.le_of_ble_eq_true rfl) (c := 1) (zb_90 I1) (zs_90 I1) ⟨by decide, rfl⟩ (by omega) (c_Mo_lightAt_90 (d - 1) (by omega) U I1 x y 2 (by omega) (by omega) (by omega) (by omega) (by omega)) ?_
        rintro _ _ _ ⟨v22, rfl, rfl, rfl, f21⟩
        show ov_R u d ov_m296 54 [(0, ov_r 90), (1, ov_i x), (2, ov_i y), (3, ov_i m), (4, ov_l (ov_w v17))] [ov_i v22] z (ov_up h 90 0 0) (P_Mo_does_90 F z h x y m)
        have f23 : v22 = (h 96 (10 + 4 * (6 * y + x) + (2 : Int))) ∧ ((2 : Int) = 1 → 0 ≤ v22 ∧ v22 ≤ 60) ∧ ((2 : Int) = 2 → 0 ≤ v22 ∧ v22 ≤ 59) ∧ ((2 : Int) = 3 → 0 ≤ v22 ∧ v22 ≤ 60) := f21
        clear f21
        refine ov_blk (ls2 := [(0, ov_r 90), (1, ov_i x), (2, ov_i y), (3, ov_i m), (4, ov_l (ov_w v17))]) (st2 := [ov_l ((ov_w v22) + 1)]) (pc2 := 57) b_296_54_3 rfl rfl ?_
        have g24 := ov_wg v22
        have g25 := ov_wq v22
        refine ov_nrml ?_
        have g26 := ov_wl_g ((ov_w v22) + 1)
        refine ov_blk (ls2 := [(0, ov_r 90), (1, ov_i x), (2, ov_i y), (3, ov_i m), (4, ov_l (ov_w v17)), (6, ov_l (ov_wl ((ov_w v22) + 1))), (8, ov_l 1), (10, ov_l 1), (12, ov_i 0)]) (st2 := []) (pc2 := 68) b_296_57_7 rfl rfl ?_
        have L30 : ∀ (n27 : Nat) (x8 : Int) (x10 : Int) (x12 : Int) (q29 : ov_gl x8 ∧ ov_gl x10 ∧ 0 ≤ x12 ∧ x12 ≤ 10), 10 - x12 < (n27 : Int) → ov_R u d ov_m296 68 [(0, ov_r 90), (1, ov_i x), (2, ov_i y), (3, ov_i m), (4, ov_l (ov_w v17)), (6, ov_l (ov_wl ((ov_w v22) + 1))), (8, ov_l x8), (10, ov_l x10), (12, ov_i x12)] [] z (ov_up h 90 0 0) (P_Mo_does_90 F z h x y m) := by
          intro n27
          induction n27 with
          | zero =>
            intro x8 x10 x12 q29 hn31
            exact absurd hn31 (by omega)
          | succ n27 ih28 =>
            intro x8 x10 x12 q29 hn31
            refine ov_blk (ls2 := [(0, ov_r 90), (1, ov_i x), (2, ov_i y), (3, ov_i m), (4, ov_l (ov_w v17)), (6, ov_l (ov_wl ((ov_w v22) + 1))), (8, ov_l x8), (10, ov_l x10), (12, ov_i x12)]) (st2 := [ov_r 90, ov_i x12]) (pc2 := 71) b_296_68_2 rfl rfl ?_
            refine ov_getf (v := ov_r 103) d_296_71 fl_Mo_102 (zb_90 I1) (zs_90 I1) (congrArg ov_r (rg_90_19 I1)) ?_
            refine ov_blk (ls2 := [(0, ov_r 90), (1, ov_i x), (2, ov_i y), (3, ov_i m), (4, ov_l (ov_w v17)), (6, ov_l (ov_wl ((ov_w v22) + 1))), (8, ov_l x8), (10, ov_l x10), (12, ov_i x12)]) (st2 := [ov_i 58, ov_r 103, ov_i x12]) (pc2 := 76) b_296_74_1 rfl rfl ?_
            refine ov_iald d_296_76 (zb_103 I1) (zs_103 I1) (by omega) ?_
            show ov_R u d ov_m296 77 [(0, ov_r 90), (1, ov_i x), (2, ov_i y), (3, ov_i m), (4, ov_l (ov_w v17)), (6, ov_l (ov_wl ((ov_w v22) + 1))), (8, ov_l x8), (10, ov_l x10), (12, ov_i x12)] [ov_i (h 103 58), ov_i x12] z (ov_up h 90 0 0) (P_Mo_does_90 F z h x y m)
            have g32 := s103_58 I
            refine ov_icge (tgt := 178) d_296_77 (by decide) (by omega) (by omega) (fun c33 => ?_) (fun c33 => ?_)
            · skip
              refine ov_blk (ls2 := [(0, ov_r 90), (1, ov_i x), (2, ov_i y), (3, ov_i m), (4, ov_l (ov_w v17)), (6, ov_l (ov_wl ((ov_w v22) + 1))), (8, ov_l x8), (10, ov_l x10), (12, ov_i x12)]) (st2 := [ov_l (x8 + x10)]) (pc2 := 183) b_296_178_3 rfl rfl ?_
              refine ov_nrml ?_
              have g34 := ov_wl_g (x8 + x10)
              refine ov_blk (ls2 := [(0, ov_r 90), (1, ov_i x), (2, ov_i y), (3, ov_i m), (4, ov_l (ov_w v17)), (6, ov_l (ov_wl ((ov_w v22) + 1))), (8, ov_l x8), (10, ov_l x10), (12, ov_i x12)]) (st2 := [ov_i (ov_lcmp (ov_wl (x8 + x10)) 0)]) (pc2 := 185) b_296_183_2 rfl rfl ?_
              have g35 := ov_lcg (ov_wl (x8 + x10)) 0
              have g36 := ov_lcs (a := (ov_wl (x8 + x10))) (b := 0) (by omega) (by omega)
              refine ov_ifne (tgt := 192) d_296_185 (by decide) (by omega) (fun c37 => ?_) (fun c37 => ?_)
              · skip
                refine ov_blk (ls2 := [(0, ov_r 90), (1, ov_i x), (2, ov_i y), (3, ov_i m), (4, ov_l (ov_w v17)), (6, ov_l (ov_wl ((ov_w v22) + 1))), (8, ov_l x8), (10, ov_l x10), (12, ov_l x8)]) (st2 := [ov_l (x8 + x10)]) (pc2 := 201) b_296_192_5 rfl rfl ?_
                refine ov_nrml ?_
                have g38 := ov_wl_g (x8 + x10)
                refine ov_blk (ls2 := [(0, ov_r 90), (1, ov_i x), (2, ov_i y), (3, ov_i m), (4, ov_l (ov_w v17)), (6, ov_l (ov_wl ((ov_w v22) + 1))), (8, ov_l x8), (10, ov_l x10), (12, ov_l x8), (14, ov_l (ov_wl (x8 + x10)))]) (st2 := []) (pc2 := 203) b_296_201_1 rfl rfl ?_
                have L42 : ∀ (n39 : Nat) (x12_ : Int) (x14 : Int) (q41 : ov_gl x12_ ∧ ov_gl x14 ∧ (x12_ = 0 → ¬ x14 = 0)), x14.natAbs < (n39 : Int) → ov_R u d ov_m296 203 [(0, ov_r 90), (1, ov_i x), (2, ov_i y), (3, ov_i m), (4, ov_l (ov_w v17)), (6, ov_l (ov_wl ((ov_w v22) + 1))), (8, ov_l x8), (10, ov_l x10), (12, ov_l x12_), (14, ov_l x14)] [] z (ov_up h 90 0 0) (P_Mo_does_90 F z h x y m) := by
                  intro n39
                  induction n39 with
                  | zero =>
                    intro x12_ x14 q41 hn43
                    exact absurd hn43 (by omega)
                  | succ n39 ih40 =>
                    intro x12_ x14 q41 hn43
                    refine ov_blk (ls2 := [(0, ov_r 90), (1, ov_i x), (2, ov_i y), (3, ov_i m), (4, ov_l (ov_w v17)), (6, ov_l (ov_wl ((ov_w v22) + 1))), (8, ov_l x8), (10, ov_l x10), (12, ov_l x12_), (14, ov_l x14)]) (st2 := [ov_i (ov_lcmp x14 0)]) (pc2 := 207) b_296_203_3 rfl rfl ?_
                    have g44 := ov_lcg x14 0
                    have g45 := ov_lcs (a := x14) (b := 0) (by omega) (by omega)
                    refine ov_ifeq (tgt := 228) d_296_207 (by decide) (by omega) (fun c46 => ?_) (fun c46 => ?_)
                    · skip
                      refine ov_blk (ls2 := [(0, ov_r 90), (1, ov_i x), (2, ov_i y), (3, ov_i m), (4, ov_l (ov_w v17)), (6, ov_l (ov_wl ((ov_w v22) + 1))), (8, ov_l x8), (10, ov_l x10), (12, ov_l x12_), (14, ov_l x14)]) (st2 := [ov_i m]) (pc2 := 229) b_296_228_1 rfl rfl ?_
                      refine ov_ifne (tgt := 237) d_296_229 (by decide) (by omega) (fun c47 => ?_) (fun c47 => ?_)
                      · skip
                        refine ov_blk (ls2 := [(0, ov_r 90), (1, ov_i x), (2, ov_i y), (3, ov_i m), (4, ov_l (ov_w v17)), (6, ov_l (ov_wl ((ov_w v22) + 1))), (8, ov_l x8), (10, ov_l x10), (12, ov_l x12_), (14, ov_l x14)]) (st2 := [ov_l (x8 + x10)]) (pc2 := 242) b_296_237_3 rfl rfl ?_
                        refine ov_nrml ?_
                        have g48 := ov_wl_g (x8 + x10)
                        refine ov_blk (ls2 := [(0, ov_r 90), (1, ov_i x), (2, ov_i y), (3, ov_i m), (4, ov_l (ov_w v17)), (6, ov_l (ov_wl ((ov_w v22) + 1))), (8, ov_l x8), (10, ov_l x10), (12, ov_l x12_), (14, ov_l x14)]) (st2 := [ov_l x12_, ov_l (ov_wl (x8 + x10))]) (pc2 := 244) b_296_242_1 rfl rfl ?_
                        refine ov_ldiv d_296_244 (by omega) (by omega) (by omega) ?_
                        exact ov_retl (st := []) d_296_245 rfl ⟨_, rfl, I1, ⟨rfl, rfl, rfl, rfl, rfl, rfl, rfl, rfl, rfl, rfl, rfl, rfl⟩, rfl, rfl, rfl, rfl, rfl, rfl, rfl, rfl, rfl, rfl, rfl, rfl, rfl, rfl, rfl, rfl⟩
                      · skip
                        refine ov_blk (ls2 := [(0, ov_r 90), (1, ov_i x), (2, ov_i y), (3, ov_i m), (4, ov_l (ov_w v17)), (6, ov_l (ov_wl ((ov_w v22) + 1))), (8, ov_l x8), (10, ov_l x10), (12, ov_l x12_), (14, ov_l x14)]) (st2 := [ov_l x8]) (pc2 := 234) b_296_232_1 rfl rfl ?_
                        refine ov_goto (tgt := 242) d_296_234 (by decide) ?_
                        refine ov_blk (ls2 := [(0, ov_r 90), (1, ov_i x), (2, ov_i y), (3, ov_i m), (4, ov_l (ov_w v17)), (6, ov_l (ov_wl ((ov_w v22) + 1))), (8, ov_l x8), (10, ov_l x10), (12, ov_l x12_), (14, ov_l x14)]) (st2 := [ov_l x12_, ov_l x8]) (pc2 := 244) b_296_242_1 rfl rfl ?_
                        refine ov_ldiv d_296_244 (by omega) (by omega) (by omega) ?_
                        exact ov_retl (st := []) d_296_245 rfl ⟨_, rfl, I1, ⟨rfl, rfl, rfl, rfl, rfl, rfl, rfl, rfl, rfl, rfl, rfl, rfl⟩, rfl, rfl, rfl, rfl, rfl, rfl, rfl, rfl, rfl, rfl, rfl, rfl, rfl, rfl, rfl, rfl⟩
                    · skip
                      refine ov_blk (ls2 := [(0, ov_r 90), (1, ov_i x), (2, ov_i y), (3, ov_i m), (4, ov_l (ov_w v17)), (6, ov_l (ov_wl ((ov_w v22) + 1))), (8, ov_l x8), (10, ov_l x10), (12, ov_l x12_), (14, ov_l x14)]) (st2 := [ov_l x14, ov_l x12_]) (pc2 := 214) b_296_210_2 rfl rfl ?_
                      have glr := ov_lrmn (a := x12_) (b := x14) (by omega) (by omega) (by omega)
                      refine ov_lrem d_296_214 (by omega) (by omega) (by omega) ?_
                      refine ov_blk (ls2 := [(0, ov_r 90), (1, ov_i x), (2, ov_i y), (3, ov_i m), (4, ov_l (ov_w v17)), (6, ov_l (ov_wl ((ov_w v22) + 1))), (8, ov_l x8), (10, ov_l x10), (12, ov_l x14), (14, ov_l (Int.tmod x12_ x14)), (16, ov_l (Int.tmod x12_ x14))]) (st2 := []) (pc2 := 225) b_296_215_5 rfl rfl ?_
                      refine ov_goto (tgt := 203) d_296_225 (by decide) ?_
                      refine ov_sub (ls2 := [(0, ov_r 90), (1, ov_i x), (2, ov_i y), (3, ov_i m), (4, ov_l (ov_w v17)), (6, ov_l (ov_wl ((ov_w v22) + 1))), (8, ov_l x8), (10, ov_l x10), (12, ov_l x14), (14, ov_l (Int.tmod x12_ x14))]) (List.Sublist.subset (by repeat (first | exact List.Sublist.refl _ | apply List.Sublist.cons_cons | apply List.Sublist.cons))) ?_
                      exact ih40 x14 (Int.tmod x12_ x14) (by show ov_gl x14 ∧ ov_gl (Int.tmod x12_ x14) ∧ (x14 = 0 → ¬ (Int.tmod x12_ x14) = 0); omega) (by omega)
                exact L42 9223372036854775900 x8 (ov_wl (x8 + x10)) (by show ov_gl x8 ∧ ov_gl (ov_wl (x8 + x10)) ∧ (x8 = 0 → ¬ (ov_wl (x8 + x10)) = 0); omega) (by omega)
              · skip
                refine ov_ldc2 (n := (-1)) d_296_188 kc_Mo_433 ?_
                exact ov_retl (st := []) d_296_191 rfl ⟨_, rfl, I1, ⟨rfl, rfl, rfl, rfl, rfl, rfl, rfl, rfl, rfl, rfl, rfl, rfl⟩, rfl, rfl, rfl, rfl, rfl, rfl, rfl, rfl, rfl, rfl, rfl, rfl, rfl, rfl, rfl, rfl⟩
            · skip
              refine ov_blk (ls2 := [(0, ov_r 90), (1, ov_i x), (2, ov_i y), (3, ov_i m), (4, ov_l (ov_w v17)), (6, ov_l (ov_wl ((ov_w v22) + 1))), (8, ov_l x8), (10, ov_l x10), (12, ov_i x12), (13, ov_i (60 + (3 * x12)))]) (st2 := [ov_r 90]) (pc2 := 90) b_296_80_7 rfl rfl ?_
              refine ov_getf (v := ov_r 103) d_296_90 fl_Mo_102 (zb_90 I1) (zs_90 I1) (congrArg ov_r (rg_90_19 I1)) ?_
              refine ov_blk (ls2 := [(0, ov_r 90), (1, ov_i x), (2, ov_i y), (3, ov_i m), (4, ov_l (ov_w v17)), (6, ov_l (ov_wl ((ov_w v22) + 1))), (8, ov_l x8), (10, ov_l x10), (12, ov_i x12), (13, ov_i (60 + (3 * x12)))]) (st2 := [ov_i (60 + (3 * x12)), ov_r 103]) (pc2 := 95) b_296_93_1 rfl rfl ?_
              refine ov_iald d_296_95 (zb_103 I1) (zs_103 I1) (by omega) ?_
              show ov_R u d ov_m296 96 [(0, ov_r 90), (1, ov_i x), (2, ov_i y), (3, ov_i m), (4, ov_l (ov_w v17)), (6, ov_l (ov_wl ((ov_w v22) + 1))), (8, ov_l x8), (10, ov_l x10), (12, ov_i x12), (13, ov_i (60 + (3 * x12)))] [ov_i (h 103 (60 + (3 * x12)))] z (ov_up h 90 0 0) (P_Mo_does_90 F z h x y m)
              have g49 := g103 I (60 + (3 * x12))
              refine ov_blk (ls2 := [(0, ov_r 90), (1, ov_i x), (2, ov_i y), (3, ov_i m), (4, ov_l (ov_w v17)), (6, ov_l (ov_wl ((ov_w v22) + 1))), (8, ov_l x8), (10, ov_l x10), (12, ov_i x12), (13, ov_i (60 + (3 * x12)))]) (st2 := [ov_i ((6 * y) + x), ov_i (h 103 (60 + (3 * x12)))]) (pc2 := 102) b_296_96_5 rfl rfl ?_
              refine ov_icne (tgt := 172) d_296_102 (by decide) (by omega) (by omega) (fun c50 => ?_) (fun c50 => ?_)
              · skip
                refine ov_blk (ls2 := [(0, ov_r 90), (1, ov_i x), (2, ov_i y), (3, ov_i m), (4, ov_l (ov_w v17)), (6, ov_l (ov_wl ((ov_w v22) + 1))), (8, ov_l x8), (10, ov_l x10), (12, ov_i (x12 + 1)), (13, ov_i (60 + (3 * x12)))]) (st2 := []) (pc2 := 175) b_296_172_1 rfl rfl ?_
                refine ov_goto (tgt := 68) d_296_175 (by decide) ?_
                refine ov_sub (ls2 := [(0, ov_r 90), (1, ov_i x), (2, ov_i y), (3, ov_i m), (4, ov_l (ov_w v17)), (6, ov_l (ov_wl ((ov_w v22) + 1))), (8, ov_l x8), (10, ov_l x10), (12, ov_i (x12 + 1))]) (List.Sublist.subset (by repeat (first | exact List.Sublist.refl _ | apply List.Sublist.cons_cons | apply List.Sublist.cons))) ?_
                exact ih28 x8 x10 (x12 + 1) (by show ov_gl x8 ∧ ov_gl x10 ∧ 0 ≤ (x12 + 1) ∧ (x12 + 1) ≤ 10; omega) (by omega)
              · skip
                refine ov_blk (ls2 := [(0, ov_r 90), (1, ov_i x), (2, ov_i y), (3, ov_i m), (4, ov_l (ov_w v17)), (6, ov_l (ov_wl ((ov_w v22) + 1))), (8, ov_l x8), (10, ov_l x10), (12, ov_i x12), (13, ov_i (60 + (3 * x12)))]) (st2 := [ov_r 90]) (pc2 := 106) b_296_105_1 rfl rfl ?_
                refine ov_getf (v := ov_r 103) d_296_106 fl_Mo_102 (zb_90 I1) (zs_90 I1) (congrArg ov_r (rg_90_19 I1)) ?_
                refine ov_blk (ls2 := [(0, ov_r 90), (1, ov_i x), (2, ov_i y), (3, ov_i m), (4, ov_l (ov_w v17)), (6, ov_l (ov_wl ((ov_w v22) + 1))), (8, ov_l x8), (10, ov_l x10), (12, ov_i x12), (13, ov_i (60 + (3 * x12)))]) (st2 := [ov_i ((60 + (3 * x12)) + 1), ov_r 103]) (pc2 := 113) b_296_109_3 rfl rfl ?_
                refine ov_iald d_296_113 (zb_103 I1) (zs_103 I1) (by omega) ?_
                show ov_R u d ov_m296 114 [(0, ov_r 90), (1, ov_i x), (2, ov_i y), (3, ov_i m), (4, ov_l (ov_w v17)), (6, ov_l (ov_wl ((ov_w v22) + 1))), (8, ov_l x8), (10, ov_l x10), (12, ov_i x12), (13, ov_i (60 + (3 * x12)))] [ov_i (h 103 ((60 + (3 * x12)) + 1))] z (ov_up h 90 0 0) (P_Mo_does_90 F z h x y m)
                have g51 := g103 I ((60 + (3 * x12)) + 1)
                refine ov_blk (ls2 := [(0, ov_r 90), (1, ov_i x), (2, ov_i y), (3, ov_i m), (4, ov_l (ov_w v17)), (6, ov_l (ov_wl ((ov_w v22) + 1))), (8, ov_l x8), (10, ov_l x10), (12, ov_i x12), (13, ov_i (60 + (3 * x12)))]) (st2 := [ov_i 1, ov_i (h 103 ((60 + (3 * x12)) + 1))]) (pc2 := 115) b_296_114_1 rfl rfl ?_
                refine ov_icne (tgt := 172) d_296_115 (by decide) (by omega) (by omega) (fun c52 => ?_) (fun c52 => ?_)
                · skip
                  refine ov_blk (ls2 := [(0, ov_r 90), (1, ov_i x), (2, ov_i y), (3, ov_i m), (4, ov_l (ov_w v17)), (6, ov_l (ov_wl ((ov_w v22) + 1))), (8, ov_l x8), (10, ov_l x10), (12, ov_i (x12 + 1)), (13, ov_i (60 + (3 * x12)))]) (st2 := []) (pc2 := 175) b_296_172_1 rfl rfl ?_
                  refine ov_goto (tgt := 68) d_296_175 (by decide) ?_
                  refine ov_sub (ls2 := [(0, ov_r 90), (1, ov_i x), (2, ov_i y), (3, ov_i m), (4, ov_l (ov_w v17)), (6, ov_l (ov_wl ((ov_w v22) + 1))), (8, ov_l x8), (10, ov_l x10), (12, ov_i (x12 + 1))]) (List.Sublist.subset (by repeat (first | exact List.Sublist.refl _ | apply List.Sublist.cons_cons | apply List.Sublist.cons))) ?_
                  exact ih28 x8 x10 (x12 + 1) (by show ov_gl x8 ∧ ov_gl x10 ∧ 0 ≤ (x12 + 1) ∧ (x12 + 1) ≤ 10; omega) (by omega)
                · skip
                  refine ov_blk (ls2 := [(0, ov_r 90), (1, ov_i x), (2, ov_i y), (3, ov_i m), (4, ov_l (ov_w v17)), (6, ov_l (ov_wl ((ov_w v22) + 1))), (8, ov_l x8), (10, ov_l x10), (12, ov_i x12), (13, ov_i (60 + (3 * x12)))]) (st2 := [ov_r 90]) (pc2 := 119) b_296_118_1 rfl rfl ?_
                  refine ov_getf (v := ov_r 103) d_296_119 fl_Mo_102 (zb_90 I1) (zs_90 I1) (congrArg ov_r (rg_90_19 I1)) ?_
                  refine ov_blk (ls2 := [(0, ov_r 90), (1, ov_i x), (2, ov_i y), (3, ov_i m), (4, ov_l (ov_w v17)), (6, ov_l (ov_wl ((ov_w v22) + 1))), (8, ov_l x8), (10, ov_l x10), (12, ov_i x12), (13, ov_i (60 + (3 * x12)))]) (st2 := [ov_i ((60 + (3 * x12)) + 2), ov_r 103]) (pc2 := 126) b_296_122_3 rfl rfl ?_
                  refine ov_iald d_296_126 (zb_103 I1) (zs_103 I1) (by omega) ?_
                  show ov_R u d ov_m296 127 [(0, ov_r 90), (1, ov_i x), (2, ov_i y), (3, ov_i m), (4, ov_l (ov_w v17)), (6, ov_l (ov_wl ((ov_w v22) + 1))), (8, ov_l x8), (10, ov_l x10), (12, ov_i x12), (13, ov_i (60 + (3 * x12)))] [ov_i (h 103 ((60 + (3 * x12)) + 2))] z (ov_up h 90 0 0) (P_Mo_does_90 F z h x y m)
                  have g53 := g103 I ((60 + (3 * x12)) + 2)
                  refine ov_blk (ls2 := [(0, ov_r 90), (1, ov_i x), (2, ov_i y), (3, ov_i m), (4, ov_l (ov_w v17)), (6, ov_l (ov_wl ((ov_w v22) + 1))), (8, ov_l x8), (10, ov_l x10), (12, ov_i x12), (13, ov_i (60 + (3 * x12)))]) (st2 := [ov_i (ov_lcmp (ov_w (h 103 ((60 + (3 * x12)) + 2))) (ov_wl ((ov_w v22) + 1)))]) (pc2 := 131) b_296_127_3 rfl rfl ?_
                  have g54 := ov_wg (h 103 ((60 + (3 * x12)) + 2))
                  have g55 := ov_wq (h 103 ((60 + (3 * x12)) + 2))
                  have g56 := ov_lcg (ov_w (h 103 ((60 + (3 * x12)) + 2))) (ov_wl ((ov_w v22) + 1))
                  have g57 := ov_lcs (a := (ov_w (h 103 ((60 + (3 * x12)) + 2)))) (b := (ov_wl ((ov_w v22) + 1))) (by omega) (by omega)
                  refine ov_ifge (tgt := 142) d_296_131 (by decide) (by omega) (fun c58 => ?_) (fun c58 => ?_)
                  · skip
                    refine ov_blk (ls2 := [(0, ov_r 90), (1, ov_i x), (2, ov_i y), (3, ov_i m), (4, ov_l (ov_w v17)), (6, ov_l (ov_wl ((ov_w v22) + 1))), (8, ov_l 0), (10, ov_l x10), (12, ov_i x12), (13, ov_i (60 + (3 * x12)))]) (st2 := [ov_r 90]) (pc2 := 146) b_296_142_3 rfl rfl ?_
                    refine ov_getf (v := ov_r 103) d_296_146 fl_Mo_102 (zb_90 I1) (zs_90 I1) (congrArg ov_r (rg_90_19 I1)) ?_
                    refine ov_blk (ls2 := [(0, ov_r 90), (1, ov_i x), (2, ov_i y), (3, ov_i m), (4, ov_l (ov_w v17)), (6, ov_l (ov_wl ((ov_w v22) + 1))), (8, ov_l 0), (10, ov_l x10), (12, ov_i x12), (13, ov_i (60 + (3 * x12)))]) (st2 := [ov_i ((60 + (3 * x12)) + 2), ov_r 103]) (pc2 := 153) b_296_149_3 rfl rfl ?_
                    refine ov_iald d_296_153 (zb_103 I1) (zs_103 I1) (by omega) ?_
                    show ov_R u d ov_m296 154 [(0, ov_r 90), (1, ov_i x), (2, ov_i y), (3, ov_i m), (4, ov_l (ov_w v17)), (6, ov_l (ov_wl ((ov_w v22) + 1))), (8, ov_l 0), (10, ov_l x10), (12, ov_i x12), (13, ov_i (60 + (3 * x12)))] [ov_i (h 103 ((60 + (3 * x12)) + 2))] z (ov_up h 90 0 0) (P_Mo_does_90 F z h x y m)
                    refine ov_blk (ls2 := [(0, ov_r 90), (1, ov_i x), (2, ov_i y), (3, ov_i m), (4, ov_l (ov_w v17)), (6, ov_l (ov_wl ((ov_w v22) + 1))), (8, ov_l 0), (10, ov_l x10), (12, ov_i x12), (13, ov_i (60 + (3 * x12)))]) (st2 := [ov_i (ov_lcmp (ov_w (h 103 ((60 + (3 * x12)) + 2))) (ov_w v17))]) (pc2 := 158) b_296_154_3 rfl rfl ?_
                    have g60 := ov_wg (h 103 ((60 + (3 * x12)) + 2))
                    have g61 := ov_wq (h 103 ((60 + (3 * x12)) + 2))
                    have g62 := ov_lcg (ov_w (h 103 ((60 + (3 * x12)) + 2))) (ov_w v17)
                    have g63 := ov_lcs (a := (ov_w (h 103 ((60 + (3 * x12)) + 2)))) (b := (ov_w v17)) (by omega) (by omega)
                    refine ov_ifge (tgt := 169) d_296_158 (by decide) (by omega) (fun c64 => ?_) (fun c64 => ?_)
                    · skip
                      refine ov_blk (ls2 := [(0, ov_r 90), (1, ov_i x), (2, ov_i y), (3, ov_i m), (4, ov_l (ov_w v17)), (6, ov_l (ov_wl ((ov_w v22) + 1))), (8, ov_l 0), (10, ov_l 0), (12, ov_i (x12 + 1)), (13, ov_i (60 + (3 * x12)))]) (st2 := []) (pc2 := 175) b_296_169_3 rfl rfl ?_
                      refine ov_goto (tgt := 68) d_296_175 (by decide) ?_
                      refine ov_sub (ls2 := [(0, ov_r 90), (1, ov_i x), (2, ov_i y), (3, ov_i m), (4, ov_l (ov_w v17)), (6, ov_l (ov_wl ((ov_w v22) + 1))), (8, ov_l 0), (10, ov_l 0), (12, ov_i (x12 + 1))]) (List.Sublist.subset (by repeat (first | exact List.Sublist.refl _ | apply List.Sublist.cons_cons | apply List.Sublist.cons))) ?_
                      exact ih28 0 0 (x12 + 1) (by show ov_gl 0 ∧ ov_gl 0 ∧ 0 ≤ (x12 + 1) ∧ (x12 + 1) ≤ 10; omega) (by omega)
                    · skip
                      refine ov_blk (ls2 := [(0, ov_r 90), (1, ov_i x), (2, ov_i y), (3, ov_i m), (4, ov_l (ov_w v17)), (6, ov_l (ov_wl ((ov_w v22) + 1))), (8, ov_l 0), (10, ov_l x10), (12, ov_i x12), (13, ov_i (60 + (3 * x12)))]) (st2 := [ov_l (x10 * (ov_wl ((ov_w v22) + 1)))]) (pc2 := 166) b_296_161_3 rfl rfl ?_
                      refine ov_nrml ?_
                      have g65 := ov_wl_g (x10 * (ov_wl ((ov_w v22) + 1)))
                      refine ov_goto (tgt := 170) d_296_166 (by decide) ?_
                      refine ov_blk (ls2 := [(0, ov_r 90), (1, ov_i x), (2, ov_i y), (3, ov_i m), (4, ov_l (ov_w v17)), (6, ov_l (ov_wl ((ov_w v22) + 1))), (8, ov_l 0), (10, ov_l (ov_wl (x10 * (ov_wl ((ov_w v22) + 1))))), (12, ov_i (x12 + 1)), (13, ov_i (60 + (3 * x12)))]) (st2 := []) (pc2 := 175) b_296_170_2 rfl rfl ?_
                      refine ov_goto (tgt := 68) d_296_175 (by decide) ?_
                      refine ov_sub (ls2 := [(0, ov_r 90), (1, ov_i x), (2, ov_i y), (3, ov_i m), (4, ov_l (ov_w v17)), (6, ov_l (ov_wl ((ov_w v22) + 1))), (8, ov_l 0), (10, ov_l (ov_wl (x10 * (ov_wl ((ov_w v22) + 1))))), (12, ov_i (x12 + 1))]) (List.Sublist.subset (by repeat (first | exact List.Sublist.refl _ | apply List.Sublist.cons_cons | apply List.Sublist.cons))) ?_
                      exact ih28 0 (ov_wl (x10 * (ov_wl ((ov_w v22) + 1)))) (x12 + 1) (by show ov_gl 0 ∧ ov_gl (ov_wl (x10 * (ov_wl ((ov_w v22) + 1)))) ∧ 0 ≤ (x12 + 1) ∧ (x12 + 1) ≤ 10; omega) (by omega)
                  · skip
                    refine ov_blk (ls2 := [(0, ov_r 90), (1, ov_i x), (2, ov_i y), (3, ov_i m), (4, ov_l (ov_w v17)), (6, ov_l (ov_wl ((ov_w v22) + 1))), (8, ov_l x8), (10, ov_l x10), (12, ov_i x12), (13, ov_i (60 + (3 * x12)))]) (st2 := [ov_l (x8 * (ov_w v17))]) (pc2 := 139) b_296_134_3 rfl rfl ?_
                    refine ov_nrml ?_
                    have g66 := ov_wl_g (x8 * (ov_w v17))
                    refine ov_goto (tgt := 143) d_296_139 (by decide) ?_
                    refine ov_blk (ls2 := [(0, ov_r 90), (1, ov_i x), (2, ov_i y), (3, ov_i m), (4, ov_l (ov_w v17)), (6, ov_l (ov_wl ((ov_w v22) + 1))), (8, ov_l (ov_wl (x8 * (ov_w v17)))), (10, ov_l x10), (12, ov_i x12), (13, ov_i (60 + (3 * x12)))]) (st2 := [ov_r 90]) (pc2 := 146) b_296_143_2 rfl rfl ?_
                    refine ov_getf (v := ov_r 103) d_296_146 fl_Mo_102 (zb_90 I1) (zs_90 I1) (congrArg ov_r (rg_90_19 I1)) ?_
                    refine ov_blk (ls2 := [(0, ov_r 90), (1, ov_i x), (2, ov_i y), (3, ov_i m), (4, ov_l (ov_w v17)), (6, ov_l (ov_wl ((ov_w v22) + 1))), (8, ov_l (ov_wl (x8 * (ov_w v17)))), (10, ov_l x10), (12, ov_i x12), (13, ov_i (60 + (3 * x12)))]) (st2 := [ov_i ((60 + (3 * x12)) + 2), ov_r 103]) (pc2 := 153) b_296_149_3 rfl rfl ?_
                    refine ov_iald d_296_153 (zb_103 I1) (zs_103 I1) (by omega) ?_
                    show ov_R u d ov_m296 154 [(0, ov_r 90), (1, ov_i x), (2, ov_i y), (3, ov_i m), (4, ov_l (ov_w v17)), (6, ov_l (ov_wl ((ov_w v22) + 1))), (8, ov_l (ov_wl (x8 * (ov_w v17)))), (10, ov_l x10), (12, ov_i x12), (13, ov_i (60 + (3 * x12)))] [ov_i (h 103 ((60 + (3 * x12)) + 2))] z (ov_up h 90 0 0) (P_Mo_does_90 F z h x y m)
                    refine ov_blk (ls2 := [(0, ov_r 90), (1, ov_i x), (2, ov_i y), (3, ov_i m), (4, ov_l (ov_w v17)), (6, ov_l (ov_wl ((ov_w v22) + 1))), (8, ov_l (ov_wl (x8 * (ov_w v17)))), (10, ov_l x10), (12, ov_i x12), (13, ov_i (60 + (3 * x12)))]) (st2 := [ov_i (ov_lcmp (ov_w (h 103 ((60 + (3 * x12)) + 2))) (ov_w v17))]) (pc2 := 158) b_296_154_3 rfl rfl ?_
                    have g68 := ov_wg (h 103 ((60 + (3 * x12)) + 2))
                    have g69 := ov_wq (h 103 ((60 + (3 * x12)) + 2))
                    have g70 := ov_lcg (ov_w (h 103 ((60 + (3 * x12)) + 2))) (ov_w v17)
                    have g71 := ov_lcs (a := (ov_w (h 103 ((60 + (3 * x12)) + 2)))) (b := (ov_w v17)) (by omega) (by omega)
                    refine ov_ifge (tgt := 169) d_296_158 (by decide) (by omega) (fun c72 => ?_) (fun c72 => ?_)
                    · skip
                      refine ov_blk (ls2 := [(0, ov_r 90), (1, ov_i x), (2, ov_i y), (3, ov_i m), (4, ov_l (ov_w v17)), (6, ov_l (ov_wl ((ov_w v22) + 1))), (8, ov_l (ov_wl (x8 * (ov_w v17)))), (10, ov_l 0), (12, ov_i (x12 + 1)), (13, ov_i (60 + (3 * x12)))]) (st2 := []) (pc2 := 175) b_296_169_3 rfl rfl ?_
                      refine ov_goto (tgt := 68) d_296_175 (by decide) ?_
                      refine ov_sub (ls2 := [(0, ov_r 90), (1, ov_i x), (2, ov_i y), (3, ov_i m), (4, ov_l (ov_w v17)), (6, ov_l (ov_wl ((ov_w v22) + 1))), (8, ov_l (ov_wl (x8 * (ov_w v17)))), (10, ov_l 0), (12, ov_i (x12 + 1))]) (List.Sublist.subset (by repeat (first | exact List.Sublist.refl _ | apply List.Sublist.cons_cons | apply List.Sublist.cons))) ?_
                      exact ih28 (ov_wl (x8 * (ov_w v17))) 0 (x12 + 1) (by show ov_gl (ov_wl (x8 * (ov_w v17))) ∧ ov_gl 0 ∧ 0 ≤ (x12 + 1) ∧ (x12 + 1) ≤ 10; omega) (by omega)
                    · skip
                      refine ov_blk (ls2 := [(0, ov_r 90), (1, ov_i x), (2, ov_i y), (3, ov_i m), (4, ov_l (ov_w v17)), (6, ov_l (ov_wl ((ov_w v22) + 1))), (8, ov_l (ov_wl (x8 * (ov_w v17)))), (10, ov_l x10), (12, ov_i x12), (13, ov_i (60 + (3 * x12)))]) (st2 := [ov_l (x10 * (ov_wl ((ov_w v22) + 1)))]) (pc2 := 166) b_296_161_3 rfl rfl ?_
                      refine ov_nrml ?_
                      have g73 := ov_wl_g (x10 * (ov_wl ((ov_w v22) + 1)))
                      refine ov_goto (tgt := 170) d_296_166 (by decide) ?_
                      refine ov_blk (ls2 := [(0, ov_r 90), (1, ov_i x), (2, ov_i y), (3, ov_i m), (4, ov_l (ov_w v17)), (6, ov_l (ov_wl ((ov_w v22) + 1))), (8, ov_l (ov_wl (x8 * (ov_w v17)))), (10, ov_l (ov_wl (x10 * (ov_wl ((ov_w v22) + 1))))), (12, ov_i (x12 + 1)), (13, ov_i (60 + (3 * x12)))]) (st2 := []) (pc2 := 175) b_296_170_2 rfl rfl ?_
                      refine ov_goto (tgt := 68) d_296_175 (by decide) ?_
                      refine ov_sub (ls2 := [(0, ov_r 90), (1, ov_i x), (2, ov_i y), (3, ov_i m), (4, ov_l (ov_w v17)), (6, ov_l (ov_wl ((ov_w v22) + 1))), (8, ov_l (ov_wl (x8 * (ov_w v17)))), (10, ov_l (ov_wl (x10 * (ov_wl ((ov_w v22) + 1))))), (12, ov_i (x12 + 1))]) (List.Sublist.subset (by repeat (first | exact List.Sublist.refl _ | apply List.Sublist.cons_cons | apply List.Sublist.cons))) ?_
                      exact ih28 (ov_wl (x8 * (ov_w v17))) (ov_wl (x10 * (ov_wl ((ov_w v22) + 1)))) (x12 + 1) (by show ov_gl (ov_wl (x8 * (ov_w v17))) ∧ ov_gl (ov_wl (x10 * (ov_wl ((ov_w v22) + 1)))) ∧ 0 ≤ (x12 + 1) ∧ (x12 + 1) ≤ 10; omega) (by omega)
        exact L30 11 1 1 0 (by show ov_gl 1 ∧ ov_gl 1 ∧ 0 ≤ 0 ∧ 0 ≤ 10; omega) (by omega)
      · skip
        have f13_ : v12 = 0 := by omega
        have f74 : m < (0 : Int) ∨ (1 : Int) < m := f13.2.2 (by omega)
        clear f13
        refine ov_ldc2 (n := (-1)) d_296_33 kc_Mo_433 ?_
        exact ov_retl (st := []) d_296_36 rfl ⟨_, rfl, I1, ⟨rfl, rfl, rfl, rfl, rfl, rfl, rfl, rfl, rfl, rfl, rfl, rfl⟩, rfl, rfl, rfl, rfl, rfl, rfl, rfl, rfl, rfl, rfl, rfl, rfl, rfl, rfl, rfl, rfl⟩
abbrev P_Mo_mark_90 (F : ov_H × ov_Z) (z : ov_Z) (h : ov_H) (m : Int) (b : Int) : Option ov_V → ov_Z → ov_H → Prop := fun r0 z' h' => ∃ r : Int, r0 = some (ov_i r) ∧ ov_N F z' h' ∧ ((h' 90 2) = (h 90 2) ∧ (h' 90 7) = (h 90 7) ∧ (h' 90 8) = (h 90 8) ∧ (h' 90 13) = (h 90 13) ∧ (h' 90 25) = (h 90 25) ∧ (h' 90 26) = (h 90 26) ∧ (h' 90 28) = (h 90 28) ∧ (h' 90 29) = (h 90 29) ∧ (h' 90 30) = (h 90 30) ∧ (h' 90 34) = (h 90 34) ∧ (r = 0 ∨ r = 1) ∧ (h 90 22) ≤ (h' 90 22) ∧ (h' 90 22) ≤ (h 90 22) + 1) ∧ h' 91 = h 91 ∧ h' 92 = h 92 ∧ h' 93 = h 93 ∧ h' 94 = h 94 ∧ h' 95 = h 95 ∧ h' 96 = h 96 ∧ h' 97 = h 97 ∧ h' 98 = h 98 ∧ h' 99 = h 99 ∧ h' 100 = h 100 ∧ h' 105 = h 105 ∧ h' 106 = h 106 ∧ h' 109 = h 109 ∧ h' 114 = h 114 ∧ (((h' 90 22) = (h 90 22) ∧ (h' 103) = (h 103)) ∨ (h' 90 22) = (h 90 22) + 1)
set_option maxHeartbeats 4000000 in
theorem c_Mo_mark_90 {u : ov_U} {F : ov_H × ov_Z} {z : ov_Z} {h : ov_H} (d : Nat) (hd : 1 ≤ d) (U : ov_cap u) (I : ov_N F z h) (m : Int) (b : Int) (g_m : ov_g m) (g_b : b = 0 ∨ b = 1) (p0 : 0 ≤ (h 90 22) ∧ (h 90 22) ≤ 2000000000) : ov_T u d ov_m311 [ov_r 90, ov_i m, ov_i b] z h (P_Mo_mark_90 F z h m b) := by
  refine ov_en rfl (Nat.le_of_ble_eq_true rfl) ?_
  show ov_R u d ov_m311 0 [(0, ov_r 90), (1, ov_i m), (2, ov_i b)] [] z h (P_Mo_mark_90 F z h m b)
  have t0 := t96_0 I
  have t1 := t96_1 I
  refine ov_blk (ls2 := [(0, ov_r 90), (1, ov_i m), (2, ov_i b)]) (st2 := [ov_i 0, ov_r 90]) (pc2 := 2) b_311_0_2 rfl rfl ?_
  refine ov_putf (x := 0) d_311_2 fl_Mo_1 (zb_90 I) (zs_90 I) rfl nk_0 rfl ?_
  have I1 := up_90_0 (x := 0) I (by omega)
  refine ov_blk (ls2 := [(0, ov_r 90), (1, ov_i m), (2, ov_i b)]) (st2 := [ov_i 3, ov_i 0, ov_i m]) (pc2 := 8) b_311_5_3 rfl rfl ?_
  refine ov_cS (as := [ov_i m, ov_i 0, ov_i 3]) (st := []) (d2 := d - 1) d_311_8 lk_Mo_299 rfl (Nat.le_of_ble_eq_true rfl) (by omega) (c_Mo_within (d - 1) (by omega) U I1 m 0 3 (by omega) (by omega) (by omega)) ?_
  rintro _ _ _ ⟨v3, rfl, rfl, rfl, f2⟩
  show ov_R u d ov_m311 11 [(0, ov_r 90), (1, ov_i m), (2, ov_i b)] [ov_i v3] z (ov_up h 90 0 0) (P_Mo_mark_90 F z h m b)
  have f4 : (v3 = 0 ∨ v3 = 1) ∧ (v3 = 1 → (0 : Int) ≤ m ∧ m ≤ (3 : Int)) ∧ (v3 = 0 → m < (0 : Int) ∨ (3 : Int) < m) := f2
  clear f2
  refine ov_ifeq (tgt := 27) d_311_11 (by decide) (by omega) (fun c5 => ?_) (fun c5 => ?_)
  · skip
    have f4_ : v3 = 0 := by omega
    have f6 : m < (0 : Int) ∨ (3 : Int) < m := f4.2.2 (by omega)
    clear f4
    refine ov_blk (ls2 := [(0, ov_r 90), (1, ov_i m), (2, ov_i b)]) (st2 := [ov_i 0]) (pc2 := 28) b_311_27_1 rfl rfl ?_
    exact ov_retz (st := []) d_311_28 rfl (by omega) ⟨_, rfl, I1, ⟨rfl, rfl, rfl, rfl, rfl, rfl, rfl, rfl, rfl, rfl, (by show (0 = 0 ∨ 0 = 1) ∧ (h 90 22) ≤ (h 90 22) ∧ (h 90 22) ≤ (h 90 22) + 1; omega)⟩, rfl, rfl, rfl, rfl, rfl, rfl, rfl, rfl, rfl, rfl, rfl, rfl, rfl, rfl, (Or.inl ⟨rfl, rfl⟩)⟩
  · skip
    have f4_ : v3 = 1 := by omega
    have f7 : (0 : Int) ≤ m ∧ m ≤ (3 : Int) := f4.2.1 (by omega)
    clear f4
    refine ov_blk (ls2 := [(0, ov_r 90), (1, ov_i m), (2, ov_i b)]) (st2 := [ov_i b]) (pc2 := 15) b_311_14_1 rfl rfl ?_
    refine ov_ifeq (tgt := 29) d_311_15 (by decide) (by omega) (fun c8 => ?_) (fun c8 => ?_)
    · skip
      refine ov_blk (ls2 := [(0, ov_r 90), (1, ov_i m), (2, ov_i b)]) (st2 := [ov_r 90]) (pc2 := 30) b_311_29_1 rfl rfl ?_
      refine ov_getf (v := ov_r 104) d_311_30 fl_Mo_105 (zb_90 I1) (zs_90 I1) (congrArg ov_r (rg_90_21 I1)) ?_
      refine ov_blk (ls2 := [(0, ov_r 90), (1, ov_i m), (2, ov_i b)]) (st2 := [ov_i 1, ov_i m, ov_r 104]) (pc2 := 35) b_311_33_2 rfl rfl ?_
      refine ov_zast d_311_35 (zb_104 I1) (zs_104 I1) (by omega) (by omega) ?_
      have I9 := ua_104 (k := m) (x := 1) I1 (by omega)
      refine ov_blk (ls2 := [(0, ov_r 90), (1, ov_i m), (2, ov_i b)]) (st2 := [ov_i b, ov_r 90]) (pc2 := 38) b_311_36_2 rfl rfl ?_
      refine ov_ifeq (tgt := 47) d_311_38 (by decide) (by omega) (fun c10 => ?_) (fun c10 => ?_)
      · skip
        refine ov_blk (ls2 := [(0, ov_r 90), (1, ov_i m), (2, ov_i b)]) (st2 := [ov_i b, ov_i 0, ov_r 90]) (pc2 := 49) b_311_47_2 rfl rfl ?_
        refine ov_ifeq (tgt := 56) d_311_49 (by decide) (by omega) (fun c11 => ?_) (fun c11 => ?_)
        · skip
          refine ov_blk (ls2 := [(0, ov_r 90), (1, ov_i m), (2, ov_i b)]) (st2 := [ov_i 120, ov_i (1 + m), ov_i 0, ov_r 90]) (pc2 := 61) b_311_56_4 rfl rfl ?_
          refine ov_cV (as := [ov_i 0, ov_i (1 + m), ov_i 120]) (st := []) (d2 := d - 1) d_311_61 lk_Mo_325 rfl (Nat.le_of_ble_eq_true rfl) (c := 1) (zb_90 I9) (zs_90 I9) ⟨by decide, rfl⟩ (by omega) (c_Mo_copies_90 (d - 1) (by omega) U I9 0 (1 + m) 120 (by omega) (by omega) (by omega) (by omega) (by omega) (by omega)) ?_
          rintro _ z29 h30 ⟨rfl, I31, f12, e13, e14, e15, e16, e17, e18, e19, e20, e21, e22, e23, e24, e25, e26, e27, y28⟩
          have E32 : h30 91 = h 91 := e13
          have E33 : h30 92 = h 92 := e14
          have E34 : h30 93 = h 93 := e15
          have E35 : h30 94 = h 94 := e16
          have E36 : h30 95 = h 95 := e17
          have E37 : h30 96 = h 96 := e18
          have E38 : h30 97 = h 97 := e19
          have E39 : h30 98 = h 98 := e20
          have E40 : h30 99 = h 99 := e21
          have E41 : h30 100 = h 100 := e22
          have E42 : h30 105 = h 105 := e24
          have E43 : h30 106 = h 106 := e25
          have E44 : h30 109 = h 109 := e26
          have E45 : h30 114 = h 114 := e27
          show ov_R u d ov_m311 64 [(0, ov_r 90), (1, ov_i m), (2, ov_i b)] [] z29 h30 (P_Mo_mark_90 F z h m b)
          have f46 : (h30 90 2) = (h 90 2) ∧ (h30 90 7) = (h 90 7) ∧ (h30 90 8) = (h 90 8) ∧ (h30 90 13) = (h 90 13) ∧ (h30 90 20) = (h 90 20) ∧ (h30 90 22) = (h 90 22) ∧ (h30 90 25) = (h 90 25) ∧ (h30 90 26) = (h 90 26) ∧ (h30 90 28) = (h 90 28) ∧ (h30 90 29) = (h 90 29) ∧ (h30 90 30) = (h 90 30) ∧ (h30 90 34) = (h 90 34) := f12
          clear f12
          have y28_ : ∀ j : Int, j < 120 * (1 + m) ∨ 120 * (1 + m) + (120 : Int) ≤ j → (h30 103) j = (h 103) j := y28
          refine ov_blk (ls2 := [(0, ov_r 90), (1, ov_i m), (2, ov_i b)]) (st2 := [ov_i b, ov_r 90]) (pc2 := 66) b_311_64_2 rfl rfl ?_
          refine ov_ifeq (tgt := 73) d_311_66 (by decide) (by omega) (fun c47 => ?_) (fun c47 => ?_)
          · skip
            refine ov_blk (ls2 := [(0, ov_r 90), (1, ov_i m), (2, ov_i b)]) (st2 := [ov_r 90, ov_r 90]) (pc2 := 74) b_311_73_1 rfl rfl ?_
            refine ov_getf (v := ov_i (h30 90 20)) d_311_74 fl_Mo_319 (zb_90 I31) (zs_90 I31) rfl ?_
            have g48 := rg_90_20 I31
            refine ov_putf (x := (h30 90 20)) d_311_77 fl_Mo_319 (zb_90 I31) (zs_90 I31) rfl nk_0 rfl ?_
            have I49 := up_90_20 (x := (h30 90 20)) I31 (by omega)
            refine ov_blk (ls2 := [(0, ov_r 90), (1, ov_i m), (2, ov_i b)]) (st2 := [ov_r 90, ov_r 90]) (pc2 := 82) b_311_80_2 rfl rfl ?_
            refine ov_getf (v := ov_i (h30 90 22)) d_311_82 fl_Mo_322 (zb_90 I49) (zs_90 I49) rfl ?_
            have g50 := rg_90_22 I31
            refine ov_blk (ls2 := [(0, ov_r 90), (1, ov_i m), (2, ov_i b)]) (st2 := [ov_i ((h30 90 22) + 1), ov_r 90]) (pc2 := 87) b_311_85_2 rfl rfl ?_
            refine ov_putf (x := ((h30 90 22) + 1)) d_311_87 fl_Mo_322 (zb_90 I49) (zs_90 I49) rfl nk_0 rfl ?_
            have I51 := up_90_22 (x := ((h30 90 22) + 1)) I49 (by omega)
            refine ov_blk (ls2 := [(0, ov_r 90), (1, ov_i m), (2, ov_i b)]) (st2 := [ov_i 1]) (pc2 := 91) b_311_90_1 rfl rfl ?_
            exact ov_retz (st := []) d_311_91 rfl (by omega) ⟨_, rfl, I51, (by show (h30 90 2) = (h 90 2) ∧ (h30 90 7) = (h 90 7) ∧ (h30 90 8) = (h 90 8) ∧ (h30 90 13) = (h 90 13) ∧ (h30 90 25) = (h 90 25) ∧ (h30 90 26) = (h 90 26) ∧ (h30 90 28) = (h 90 28) ∧ (h30 90 29) = (h 90 29) ∧ (h30 90 30) = (h 90 30) ∧ (h30 90 34) = (h 90 34) ∧ (1 = 0 ∨ 1 = 1) ∧ (h 90 22) ≤ ((h30 90 22) + 1) ∧ ((h30 90 22) + 1) ≤ (h 90 22) + 1; omega), E32, E33, E34, E35, E36, E37, E38, E39, E40, E41, E42, E43, E44, E45, (Or.inr (by show ((h30 90 22) + 1) = h 90 22 + 1; omega))⟩
          · omega
        · omega
      · omega
    · skip
      refine ov_blk (ls2 := [(0, ov_r 90), (1, ov_i m), (2, ov_i b)]) (st2 := [ov_r 90]) (pc2 := 19) b_311_18_1 rfl rfl ?_
      refine ov_getf (v := ov_r 104) d_311_19 fl_Mo_105 (zb_90 I1) (zs_90 I1) (congrArg ov_r (rg_90_21 I1)) ?_
      refine ov_blk (ls2 := [(0, ov_r 90), (1, ov_i m), (2, ov_i b)]) (st2 := [ov_i m, ov_r 104]) (pc2 := 23) b_311_22_1 rfl rfl ?_
      refine ov_zald d_311_23 (zb_104 I1) (zs_104 I1) (by omega) ?_
      show ov_R u d ov_m311 24 [(0, ov_r 90), (1, ov_i m), (2, ov_i b)] [ov_i (h 104 m)] z (ov_up h 90 0 0) (P_Mo_mark_90 F z h m b)
      have g52 := ra_104 I m
      refine ov_ifne (tgt := 29) d_311_24 (by decide) (by omega) (fun c53 => ?_) (fun c53 => ?_)
      · skip
        refine ov_blk (ls2 := [(0, ov_r 90), (1, ov_i m), (2, ov_i b)]) (st2 := [ov_r 90]) (pc2 := 30) b_311_29_1 rfl rfl ?_
        refine ov_getf (v := ov_r 104) d_311_30 fl_Mo_105 (zb_90 I1) (zs_90 I1) (congrArg ov_r (rg_90_21 I1)) ?_
        refine ov_blk (ls2 := [(0, ov_r 90), (1, ov_i m), (2, ov_i b)]) (st2 := [ov_i 1, ov_i m, ov_r 104]) (pc2 := 35) b_311_33_2 rfl rfl ?_
        refine ov_zast d_311_35 (zb_104 I1) (zs_104 I1) (by omega) (by omega) ?_
        have I54 := ua_104 (k := m) (x := 1) I1 (by omega)
        refine ov_blk (ls2 := [(0, ov_r 90), (1, ov_i m), (2, ov_i b)]) (st2 := [ov_i b, ov_r 90]) (pc2 := 38) b_311_36_2 rfl rfl ?_
        refine ov_ifeq (tgt := 47) d_311_38 (by decide) (by omega) (fun c55 => ?_) (fun c55 => ?_)
        · omega
        · skip
          refine ov_blk (ls2 := [(0, ov_r 90), (1, ov_i m), (2, ov_i b)]) (st2 := [ov_i (1 + m), ov_r 90]) (pc2 := 44) b_311_41_3 rfl rfl ?_
          refine ov_goto (tgt := 48) d_311_44 (by decide) ?_
          refine ov_blk (ls2 := [(0, ov_r 90), (1, ov_i m), (2, ov_i b)]) (st2 := [ov_i b, ov_i (1 + m), ov_r 90]) (pc2 := 49) b_311_48_1 rfl rfl ?_
          refine ov_ifeq (tgt := 56) d_311_49 (by decide) (by omega) (fun c56 => ?_) (fun c56 => ?_)
          · omega
          · skip
            refine ov_blk (ls2 := [(0, ov_r 90), (1, ov_i m), (2, ov_i b)]) (st2 := [ov_i 0, ov_i (1 + m), ov_r 90]) (pc2 := 53) b_311_52_1 rfl rfl ?_
            refine ov_goto (tgt := 59) d_311_53 (by decide) ?_
            refine ov_blk (ls2 := [(0, ov_r 90), (1, ov_i m), (2, ov_i b)]) (st2 := [ov_i 120, ov_i 0, ov_i (1 + m), ov_r 90]) (pc2 := 61) b_311_59_1 rfl rfl ?_
            refine ov_cV (as := [ov_i (1 + m), ov_i 0, ov_i 120]) (st := []) (d2 := d - 1) d_311_61 lk_Mo_325 rfl (Nat.le_of_ble_eq_true rfl) (c := 1) (zb_90 I54) (zs_90 I54) ⟨by decide, rfl⟩ (by omega) (c_Mo_copies_90 (d - 1) (by omega) U I54 (1 + m) 0 120 (by omega) (by omega) (by omega) (by omega) (by omega) (by omega)) ?_
            rintro _ z74 h75 ⟨rfl, I76, f57, e58, e59, e60, e61, e62, e63, e64, e65, e66, e67, e68, e69, e70, e71, e72, y73⟩
            have E77 : h75 91 = h 91 := e58
            have E78 : h75 92 = h 92 := e59
            have E79 : h75 93 = h 93 := e60
            have E80 : h75 94 = h 94 := e61
            have E81 : h75 95 = h 95 := e62
            have E82 : h75 96 = h 96 := e63
            have E83 : h75 97 = h 97 := e64
            have E84 : h75 98 = h 98 := e65
            have E85 : h75 99 = h 99 := e66
            have E86 : h75 100 = h 100 := e67
            have E87 : h75 105 = h 105 := e69
            have E88 : h75 106 = h 106 := e70
            have E89 : h75 109 = h 109 := e71
            have E90 : h75 114 = h 114 := e72
            show ov_R u d ov_m311 64 [(0, ov_r 90), (1, ov_i m), (2, ov_i b)] [] z74 h75 (P_Mo_mark_90 F z h m b)
            have f91 : (h75 90 2) = (h 90 2) ∧ (h75 90 7) = (h 90 7) ∧ (h75 90 8) = (h 90 8) ∧ (h75 90 13) = (h 90 13) ∧ (h75 90 20) = (h 90 20) ∧ (h75 90 22) = (h 90 22) ∧ (h75 90 25) = (h 90 25) ∧ (h75 90 26) = (h 90 26) ∧ (h75 90 28) = (h 90 28) ∧ (h75 90 29) = (h 90 29) ∧ (h75 90 30) = (h 90 30) ∧ (h75 90 34) = (h 90 34) := f57
            clear f57
            have y73_ : ∀ j : Int, j < 120 * (0 : Int) ∨ 120 * (0 : Int) + (120 : Int) ≤ j → (h75 103) j = (h 103) j := y73
            refine ov_blk (ls2 := [(0, ov_r 90), (1, ov_i m), (2, ov_i b)]) (st2 := [ov_i b, ov_r 90]) (pc2 := 66) b_311_64_2 rfl rfl ?_
            refine ov_ifeq (tgt := 73) d_311_66 (by decide) (by omega) (fun c92 => ?_) (fun c92 => ?_)
            · omega
            · skip
              refine ov_blk (ls2 := [(0, ov_r 90), (1, ov_i m), (2, ov_i b)]) (st2 := [ov_i 0, ov_r 90]) (pc2 := 70) b_311_69_1 rfl rfl ?_
              refine ov_goto (tgt := 77) d_311_70 (by decide) ?_
              refine ov_putf (x := 0) d_311_77 fl_Mo_319 (zb_90 I76) (zs_90 I76) rfl nk_0 rfl ?_
              have I93 := up_90_20 (x := 0) I76 (by omega)
              refine ov_blk (ls2 := [(0, ov_r 90), (1, ov_i m), (2, ov_i b)]) (st2 := [ov_r 90, ov_r 90]) (pc2 := 82) b_311_80_2 rfl rfl ?_
              refine ov_getf (v := ov_i (h75 90 22)) d_311_82 fl_Mo_322 (zb_90 I93) (zs_90 I93) rfl ?_
              have g94 := rg_90_22 I76
              refine ov_blk (ls2 := [(0, ov_r 90), (1, ov_i m), (2, ov_i b)]) (st2 := [ov_i ((h75 90 22) + 1), ov_r 90]) (pc2 := 87) b_311_85_2 rfl rfl ?_
              refine ov_putf (x := ((h75 90 22) + 1)) d_311_87 fl_Mo_322 (zb_90 I93) (zs_90 I93) rfl nk_0 rfl ?_
              have I95 := up_90_22 (x := ((h75 90 22) + 1)) I93 (by omega)
              refine ov_blk (ls2 := [(0, ov_r 90), (1, ov_i m), (2, ov_i b)]) (st2 := [ov_i 1]) (pc2 := 91) b_311_90_1 rfl rfl ?_
              exact ov_retz (st := []) d_311_91 rfl (by omega) ⟨_, rfl, I95, (by show (h75 90 2) = (h 90 2) ∧ (h75 90 7) = (h 90 7) ∧ (h75 90 8) = (h 90 8) ∧ (h75 90 13) = (h 90 13) ∧ (h75 90 25) = (h 90 25) ∧ (h75 90 26) = (h 90 26) ∧ (h75 90 28) = (h 90 28) ∧ (h75 90 29) = (h 90 29) ∧ (h75 90 30) = (h 90 30) ∧ (h75 90 34) = (h 90 34) ∧ (1 = 0 ∨ 1 = 1) ∧ (h 90 22) ≤ ((h75 90 22) + 1) ∧ ((h75 90 22) + 1) ≤ (h 90 22) + 1; omega), E77, E78, E79, E80, E81, E82, E83, E84, E85, E86, E87, E88, E89, E90, (Or.inr (by show ((h75 90 22) + 1) = h 90 22 + 1; omega))⟩
      · skip
        refine ov_blk (ls2 := [(0, ov_r 90), (1, ov_i m), (2, ov_i b)]) (st2 := [ov_i 0]) (pc2 := 28) b_311_27_1 rfl rfl ?_
        exact ov_retz (st := []) d_311_28 rfl (by omega) ⟨_, rfl, I1, ⟨rfl, rfl, rfl, rfl, rfl, rfl, rfl, rfl, rfl, rfl, (by show (0 = 0 ∨ 0 = 1) ∧ (h 90 22) ≤ (h 90 22) ∧ (h 90 22) ≤ (h 90 22) + 1; omega)⟩, rfl, rfl, rfl, rfl, rfl, rfl, rfl, rfl, rfl, rfl, rfl, rfl, rfl, rfl, (Or.inl ⟨rfl, rfl⟩)⟩
abbrev P_Mo_count_90 (F : ov_H × ov_Z) (z : ov_Z) (h : ov_H) (m : Int) : Option ov_V → ov_Z → ov_H → Prop := fun r0 z' h' => ∃ r : Int, r0 = some (ov_i r) ∧ ov_N F z' h' ∧ ((h' 90 2) = (h 90 2) ∧ (h' 90 7) = (h 90 7) ∧ (h' 90 8) = (h 90 8) ∧ (h' 90 13) = (h 90 13) ∧ (h' 90 20) = (h 90 20) ∧ (h' 90 22) = (h 90 22) ∧ (h' 90 25) = (h 90 25) ∧ (h' 90 26) = (h 90 26) ∧ (h' 90 28) = (h 90 28) ∧ (h' 90 29) = (h 90 29) ∧ (h' 90 30) = (h 90 30) ∧ (h' 90 34) = (h 90 34) ∧ -2147483648 ≤ r ∧ r ≤ 2147483647) ∧ h' 91 = h 91 ∧ h' 92 = h 92 ∧ h' 93 = h 93 ∧ h' 94 = h 94 ∧ h' 95 = h 95 ∧ h' 96 = h 96 ∧ h' 97 = h 97 ∧ h' 98 = h 98 ∧ h' 99 = h 99 ∧ h' 100 = h 100 ∧ h' 103 = h 103 ∧ h' 104 = h 104 ∧ h' 105 = h 105 ∧ h' 106 = h 106 ∧ h' 109 = h 109 ∧ h' 114 = h 114
set_option maxHeartbeats 4000000 in
theorem c_Mo_count_90 {u : ov_U} {F : ov_H × ov_Z} {z : ov_Z} {h : ov_H} (d : Nat) (hd : 2 ≤ d) (U : ov_cap u) (I : ov_N F z h) (m : Int) (g_m : ov_g m) (p0 : 0 ≤ ov_bd F ∧ ov_bd F ≤ 800000000) : ov_T u d ov_m312 [ov_r 90, ov_i m] z h (P_Mo_count_90 F z h m) := by
  refine ov_en rfl (Nat.le_of_ble_eq_true rfl) ?_
  show ov_R u d ov_m312 0 [(0, ov_r 90), (1, ov_i m)] [] z h (P_Mo_count_90 F z h m)
  have t0 := t96_0 I
  have t1 := t96_1 I
  refine ov_blk (ls2 := [(0, ov_r 90), (1, ov_i m)]) (st2 := [ov_i 0, ov_r 90]) (pc2 := 2) b_312_0_2 rfl rfl ?_
  refine ov_putf (x := 0) d_312_2 fl_Mo_1 (zb_90 I) (zs_90 I) rfl nk_0 rfl ?_
  have I1 := up_90_0 (x := 0) I (by omega)
  refine ov_blk (ls2 := [(0, ov_r 90), (1, ov_i m), (2, ov_i 0), (3, ov_i 0)]) (st2 := []) (pc2 := 9) b_312_5_4 rfl rfl ?_
  have L5 : ∀ (n2 : Nat) (x2 : Int) (x3 : Int) (q4 : 0 ≤ x2 ∧ x2 ≤ x3 ∧ 0 ≤ x3 ∧ x3 ≤ 54), 54 - x3 < (n2 : Int) → ov_R u d ov_m312 9 [(0, ov_r 90), (1, ov_i m), (2, ov_i x2), (3, ov_i x3)] [] z (ov_up h 90 0 0) (P_Mo_count_90 F z h m) := by
    intro n2
    induction n2 with
    | zero =>
      intro x2 x3 q4 hn6
      exact absurd hn6 (by omega)
    | succ n2 ih3 =>
      intro x2 x3 q4 hn6
      refine ov_blk (ls2 := [(0, ov_r 90), (1, ov_i m), (2, ov_i x2), (3, ov_i x3)]) (st2 := [ov_i 54, ov_i x3]) (pc2 := 12) b_312_9_2 rfl rfl ?_
      refine ov_icge (tgt := 60) d_312_12 (by decide) (by omega) (by omega) (fun c7 => ?_) (fun c7 => ?_)
      · skip
        refine ov_blk (ls2 := [(0, ov_r 90), (1, ov_i m), (2, ov_i x2), (3, ov_i x3)]) (st2 := [ov_i m]) (pc2 := 61) b_312_60_1 rfl rfl ?_
        by_cases q8 : m = 0
        · refine ov_tin (off := 75) (tgt := 136) d_312_61 (by omega) (by omega) (by rw [q8]; rfl) (by decide) ?_
          refine ov_blk (ls2 := [(0, ov_r 90), (1, ov_i m), (2, ov_i x2), (3, ov_i x3)]) (st2 := [ov_r 90]) (pc2 := 137) b_312_136_1 rfl rfl ?_
          refine ov_cV (as := []) (st := []) (d2 := d - 1) d_312_137 lk_Mo_275 rfl (Nat.le_of_ble_eq_true rfl) (c := 1) (zb_90 I1) (zs_90 I1) ⟨by decide, rfl⟩ (by omega) (c_Mo_wide_90 (d - 1) (by omega) U I1) ?_
          rintro _ _ _ ⟨v10, rfl, rfl, rfl, f9⟩
          show ov_R u d ov_m312 140 [(0, ov_r 90), (1, ov_i m), (2, ov_i x2), (3, ov_i x3)] [ov_i v10] z (ov_up h 90 0 0) (P_Mo_count_90 F z h m)
          have f11 : v10 = (h 96 0) ∧ 1 ≤ v10 ∧ v10 ≤ 6 := f9
          clear f9
          exact ov_reti (st := []) d_312_140 rfl ⟨_, rfl, I1, ⟨rfl, rfl, rfl, rfl, rfl, rfl, rfl, rfl, rfl, rfl, rfl, rfl, (by show -2147483648 ≤ v10 ∧ v10 ≤ 2147483647; omega)⟩, rfl, rfl, rfl, rfl, rfl, rfl, rfl, rfl, rfl, rfl, rfl, rfl, rfl, rfl, rfl, rfl⟩
        by_cases q12 : m = 1
        · refine ov_tin (off := 80) (tgt := 141) d_312_61 (by omega) (by omega) (by rw [q12]; rfl) (by decide) ?_
          refine ov_blk (ls2 := [(0, ov_r 90), (1, ov_i m), (2, ov_i x2), (3, ov_i x3)]) (st2 := [ov_r 90]) (pc2 := 142) b_312_141_1 rfl rfl ?_
          refine ov_cV (as := []) (st := []) (d2 := d - 1) d_312_142 lk_Mo_279 rfl (Nat.le_of_ble_eq_true rfl) (c := 1) (zb_90 I1) (zs_90 I1) ⟨by decide, rfl⟩ (by omega) (c_Mo_deep_90 (d - 1) (by omega) U I1) ?_
          rintro _ _ _ ⟨v14, rfl, rfl, rfl, f13⟩
          show ov_R u d ov_m312 145 [(0, ov_r 90), (1, ov_i m), (2, ov_i x2), (3, ov_i x3)] [ov_i v14] z (ov_up h 90 0 0) (P_Mo_count_90 F z h m)
          have f15 : v14 = (h 96 1) ∧ 1 ≤ v14 ∧ v14 ≤ 9 := f13
          clear f13
          exact ov_reti (st := []) d_312_145 rfl ⟨_, rfl, I1, ⟨rfl, rfl, rfl, rfl, rfl, rfl, rfl, rfl, rfl, rfl, rfl, rfl, (by show -2147483648 ≤ v14 ∧ v14 ≤ 2147483647; omega)⟩, rfl, rfl, rfl, rfl, rfl, rfl, rfl, rfl, rfl, rfl, rfl, rfl, rfl, rfl, rfl, rfl⟩
        by_cases q16 : m = 2
        · refine ov_tin (off := 85) (tgt := 146) d_312_61 (by omega) (by omega) (by rw [q16]; rfl) (by decide) ?_
          refine ov_blk (ls2 := [(0, ov_r 90), (1, ov_i m), (2, ov_i x2), (3, ov_i x3)]) (st2 := [ov_r 90]) (pc2 := 147) b_312_146_1 rfl rfl ?_
          refine ov_getf (v := ov_r 96) d_312_147 fl_Mo_81 (zb_90 I1) (zs_90 I1) (congrArg ov_r (rg_90_10 I1)) ?_
          refine ov_blk (ls2 := [(0, ov_r 90), (1, ov_i m), (2, ov_i x2), (3, ov_i x3)]) (st2 := [ov_i 7, ov_r 96]) (pc2 := 152) b_312_150_1 rfl rfl ?_
          refine ov_iald d_312_152 (zb_96 I1) (zs_96 I1) (by omega) ?_
          show ov_R u d ov_m312 153 [(0, ov_r 90), (1, ov_i m), (2, ov_i x2), (3, ov_i x3)] [ov_i (h 96 7)] z (ov_up h 90 0 0) (P_Mo_count_90 F z h m)
          have g17 := g96 I 7
          exact ov_reti (st := []) d_312_153 rfl ⟨_, rfl, I1, ⟨rfl, rfl, rfl, rfl, rfl, rfl, rfl, rfl, rfl, rfl, rfl, rfl, (by show -2147483648 ≤ (h 96 7) ∧ (h 96 7) ≤ 2147483647; omega)⟩, rfl, rfl, rfl, rfl, rfl, rfl, rfl, rfl, rfl, rfl, rfl, rfl, rfl, rfl, rfl, rfl⟩
        by_cases q18 : m = 3
        · refine ov_tin (off := 93) (tgt := 154) d_312_61 (by omega) (by omega) (by rw [q18]; rfl) (by decide) ?_
          refine ov_blk (ls2 := [(0, ov_r 90), (1, ov_i m), (2, ov_i x2), (3, ov_i x3)]) (st2 := [ov_r 90]) (pc2 := 155) b_312_154_1 rfl rfl ?_
          refine ov_getf (v := ov_r 96) d_312_155 fl_Mo_81 (zb_90 I1) (zs_90 I1) (congrArg ov_r (rg_90_10 I1)) ?_
          refine ov_blk (ls2 := [(0, ov_r 90), (1, ov_i m), (2, ov_i x2), (3, ov_i x3)]) (st2 := [ov_i 8, ov_r 96]) (pc2 := 160) b_312_158_1 rfl rfl ?_
          refine ov_iald d_312_160 (zb_96 I1) (zs_96 I1) (by omega) ?_
          show ov_R u d ov_m312 161 [(0, ov_r 90), (1, ov_i m), (2, ov_i x2), (3, ov_i x3)] [ov_i (h 96 8)] z (ov_up h 90 0 0) (P_Mo_count_90 F z h m)
          have g19 := t96_8 I
          exact ov_reti (st := []) d_312_161 rfl ⟨_, rfl, I1, ⟨rfl, rfl, rfl, rfl, rfl, rfl, rfl, rfl, rfl, rfl, rfl, rfl, (by show -2147483648 ≤ (h 96 8) ∧ (h 96 8) ≤ 2147483647; omega)⟩, rfl, rfl, rfl, rfl, rfl, rfl, rfl, rfl, rfl, rfl, rfl, rfl, rfl, rfl, rfl, rfl⟩
        by_cases q20 : m = 4
        · refine ov_tin (off := 101) (tgt := 162) d_312_61 (by omega) (by omega) (by rw [q20]; rfl) (by decide) ?_
          refine ov_blk (ls2 := [(0, ov_r 90), (1, ov_i m), (2, ov_i x2), (3, ov_i x3)]) (st2 := [ov_r 90]) (pc2 := 163) b_312_162_1 rfl rfl ?_
          refine ov_getf (v := ov_r 100) d_312_163 fl_Mo_93 (zb_90 I1) (zs_90 I1) (congrArg ov_r (rg_90_16 I1)) ?_
          refine ov_blk (ls2 := [(0, ov_r 90), (1, ov_i m), (2, ov_i x2), (3, ov_i x3)]) (st2 := [ov_i 0, ov_r 100]) (pc2 := 167) b_312_166_1 rfl rfl ?_
          refine ov_iald d_312_167 (zb_100 I1) (zs_100 I1) (by omega) ?_
          show ov_R u d ov_m312 168 [(0, ov_r 90), (1, ov_i m), (2, ov_i x2), (3, ov_i x3)] [ov_i (h 100 0)] z (ov_up h 90 0 0) (P_Mo_count_90 F z h m)
          have g21 := s100_0 I
          exact ov_reti (st := []) d_312_168 rfl ⟨_, rfl, I1, ⟨rfl, rfl, rfl, rfl, rfl, rfl, rfl, rfl, rfl, rfl, rfl, rfl, (by show -2147483648 ≤ (h 100 0) ∧ (h 100 0) ≤ 2147483647; omega)⟩, rfl, rfl, rfl, rfl, rfl, rfl, rfl, rfl, rfl, rfl, rfl, rfl, rfl, rfl, rfl, rfl⟩
        by_cases q22 : m = 5
        · refine ov_tin (off := 108) (tgt := 169) d_312_61 (by omega) (by omega) (by rw [q22]; rfl) (by decide) ?_
          refine ov_blk (ls2 := [(0, ov_r 90), (1, ov_i m), (2, ov_i x2), (3, ov_i x3)]) (st2 := [ov_r 90]) (pc2 := 170) b_312_169_1 rfl rfl ?_
          refine ov_getf (v := ov_r 103) d_312_170 fl_Mo_102 (zb_90 I1) (zs_90 I1) (congrArg ov_r (rg_90_19 I1)) ?_
          refine ov_blk (ls2 := [(0, ov_r 90), (1, ov_i m), (2, ov_i x2), (3, ov_i x3)]) (st2 := [ov_i 0, ov_r 103]) (pc2 := 174) b_312_173_1 rfl rfl ?_
          refine ov_iald d_312_174 (zb_103 I1) (zs_103 I1) (by omega) ?_
          show ov_R u d ov_m312 175 [(0, ov_r 90), (1, ov_i m), (2, ov_i x2), (3, ov_i x3)] [ov_i (h 103 0)] z (ov_up h 90 0 0) (P_Mo_count_90 F z h m)
          have g23 := s103_0 I
          exact ov_reti (st := []) d_312_175 rfl ⟨_, rfl, I1, ⟨rfl, rfl, rfl, rfl, rfl, rfl, rfl, rfl, rfl, rfl, rfl, rfl, (by show -2147483648 ≤ (h 103 0) ∧ (h 103 0) ≤ 2147483647; omega)⟩, rfl, rfl, rfl, rfl, rfl, rfl, rfl, rfl, rfl, rfl, rfl, rfl, rfl, rfl, rfl, rfl⟩
        by_cases q24 : m = 6
        · refine ov_tin (off := 115) (tgt := 176) d_312_61 (by omega) (by omega) (by rw [q24]; rfl) (by decide) ?_
          refine ov_blk (ls2 := [(0, ov_r 90), (1, ov_i m), (2, ov_i x2), (3, ov_i x3)]) (st2 := [ov_r 90]) (pc2 := 177) b_312_176_1 rfl rfl ?_
          refine ov_getf (v := ov_r 103) d_312_177 fl_Mo_102 (zb_90 I1) (zs_90 I1) (congrArg ov_r (rg_90_19 I1)) ?_
          refine ov_blk (ls2 := [(0, ov_r 90), (1, ov_i m), (2, ov_i x2), (3, ov_i x3)]) (st2 := [ov_i 1, ov_r 103]) (pc2 := 181) b_312_180_1 rfl rfl ?_
          refine ov_iald d_312_181 (zb_103 I1) (zs_103 I1) (by omega) ?_
          show ov_R u d ov_m312 182 [(0, ov_r 90), (1, ov_i m), (2, ov_i x2), (3, ov_i x3)] [ov_i (h 103 1)] z (ov_up h 90 0 0) (P_Mo_count_90 F z h m)
          have g25 := s103_1 I
          exact ov_reti (st := []) d_312_182 rfl ⟨_, rfl, I1, ⟨rfl, rfl, rfl, rfl, rfl, rfl, rfl, rfl, rfl, rfl, rfl, rfl, (by show -2147483648 ≤ (h 103 1) ∧ (h 103 1) ≤ 2147483647; omega)⟩, rfl, rfl, rfl, rfl, rfl, rfl, rfl, rfl, rfl, rfl, rfl, rfl, rfl, rfl, rfl, rfl⟩
        by_cases q26 : m = 7
        · refine ov_tin (off := 122) (tgt := 183) d_312_61 (by omega) (by omega) (by rw [q26]; rfl) (by decide) ?_
          refine ov_blk (ls2 := [(0, ov_r 90), (1, ov_i m), (2, ov_i x2), (3, ov_i x3)]) (st2 := [ov_r 90]) (pc2 := 184) b_312_183_1 rfl rfl ?_
          refine ov_getf (v := ov_r 103) d_312_184 fl_Mo_102 (zb_90 I1) (zs_90 I1) (congrArg ov_r (rg_90_19 I1)) ?_
          refine ov_blk (ls2 := [(0, ov_r 90), (1, ov_i m), (2, ov_i x2), (3, ov_i x3)]) (st2 := [ov_i 2, ov_r 103]) (pc2 := 188) b_312_187_1 rfl rfl ?_
          refine ov_iald d_312_188 (zb_103 I1) (zs_103 I1) (by omega) ?_
          show ov_R u d ov_m312 189 [(0, ov_r 90), (1, ov_i m), (2, ov_i x2), (3, ov_i x3)] [ov_i (h 103 2)] z (ov_up h 90 0 0) (P_Mo_count_90 F z h m)
          have g27 := s103_2 I
          exact ov_reti (st := []) d_312_189 rfl ⟨_, rfl, I1, ⟨rfl, rfl, rfl, rfl, rfl, rfl, rfl, rfl, rfl, rfl, rfl, rfl, (by show -2147483648 ≤ (h 103 2) ∧ (h 103 2) ≤ 2147483647; omega)⟩, rfl, rfl, rfl, rfl, rfl, rfl, rfl, rfl, rfl, rfl, rfl, rfl, rfl, rfl, rfl, rfl⟩
        by_cases q28 : m = 8
        · refine ov_tin (off := 129) (tgt := 190) d_312_61 (by omega) (by omega) (by rw [q28]; rfl) (by decide) ?_
          refine ov_blk (ls2 := [(0, ov_r 90), (1, ov_i m), (2, ov_i x2), (3, ov_i x3)]) (st2 := [ov_r 90]) (pc2 := 191) b_312_190_1 rfl rfl ?_
          refine ov_getf (v := ov_r 96) d_312_191 fl_Mo_81 (zb_90 I1) (zs_90 I1) (congrArg ov_r (rg_90_10 I1)) ?_
          refine ov_blk (ls2 := [(0, ov_r 90), (1, ov_i m), (2, ov_i x2), (3, ov_i x3)]) (st2 := [ov_i 6, ov_r 96]) (pc2 := 196) b_312_194_1 rfl rfl ?_
          refine ov_iald d_312_196 (zb_96 I1) (zs_96 I1) (by omega) ?_
          show ov_R u d ov_m312 197 [(0, ov_r 90), (1, ov_i m), (2, ov_i x2), (3, ov_i x3)] [ov_i (h 96 6)] z (ov_up h 90 0 0) (P_Mo_count_90 F z h m)
          have g29 := t96_6 I
          refine ov_blk (ls2 := [(0, ov_r 90), (1, ov_i m), (2, ov_i x2), (3, ov_i x3)]) (st2 := [ov_i 1, ov_i (h 96 6)]) (pc2 := 198) b_312_197_1 rfl rfl ?_
          refine ov_icne (tgt := 205) d_312_198 (by decide) (by omega) (by omega) (fun c30 => ?_) (fun c30 => ?_)
          · skip
            refine ov_blk (ls2 := [(0, ov_r 90), (1, ov_i m), (2, ov_i x2), (3, ov_i x3)]) (st2 := [ov_r 90]) (pc2 := 206) b_312_205_1 rfl rfl ?_
            refine ov_getf (v := ov_r 96) d_312_206 fl_Mo_81 (zb_90 I1) (zs_90 I1) (congrArg ov_r (rg_90_10 I1)) ?_
            refine ov_blk (ls2 := [(0, ov_r 90), (1, ov_i m), (2, ov_i x2), (3, ov_i x3)]) (st2 := [ov_i 5, ov_r 96]) (pc2 := 210) b_312_209_1 rfl rfl ?_
            refine ov_iald d_312_210 (zb_96 I1) (zs_96 I1) (by omega) ?_
            show ov_R u d ov_m312 211 [(0, ov_r 90), (1, ov_i m), (2, ov_i x2), (3, ov_i x3)] [ov_i (h 96 5)] z (ov_up h 90 0 0) (P_Mo_count_90 F z h m)
            have g31 := t96_5 I
            refine ov_blk (ls2 := [(0, ov_r 90), (1, ov_i m), (2, ov_i x2), (3, ov_i x3)]) (st2 := [ov_r 90, ov_i (h 96 5)]) (pc2 := 212) b_312_211_1 rfl rfl ?_
            refine ov_getf (v := ov_r 103) d_312_212 fl_Mo_102 (zb_90 I1) (zs_90 I1) (congrArg ov_r (rg_90_19 I1)) ?_
            refine ov_blk (ls2 := [(0, ov_r 90), (1, ov_i m), (2, ov_i x2), (3, ov_i x3)]) (st2 := [ov_i 3, ov_r 103, ov_i (h 96 5)]) (pc2 := 216) b_312_215_1 rfl rfl ?_
            refine ov_iald d_312_216 (zb_103 I1) (zs_103 I1) (by omega) ?_
            show ov_R u d ov_m312 217 [(0, ov_r 90), (1, ov_i m), (2, ov_i x2), (3, ov_i x3)] [ov_i (h 103 3), ov_i (h 96 5)] z (ov_up h 90 0 0) (P_Mo_count_90 F z h m)
            have g32 := g103 I 3
            refine ov_blk (ls2 := [(0, ov_r 90), (1, ov_i m), (2, ov_i x2), (3, ov_i x3)]) (st2 := [ov_i ((h 96 5) - (h 103 3))]) (pc2 := 218) b_312_217_1 rfl rfl ?_
            refine ov_havw (fun w33 gw33 qw33 => ?_)
            exact ov_reti (st := []) d_312_218 rfl ⟨_, rfl, I1, ⟨rfl, rfl, rfl, rfl, rfl, rfl, rfl, rfl, rfl, rfl, rfl, rfl, (by show -2147483648 ≤ w33 ∧ w33 ≤ 2147483647; omega)⟩, rfl, rfl, rfl, rfl, rfl, rfl, rfl, rfl, rfl, rfl, rfl, rfl, rfl, rfl, rfl, rfl⟩
          · skip
            refine ov_blk (ls2 := [(0, ov_r 90), (1, ov_i m), (2, ov_i x2), (3, ov_i x3)]) (st2 := [ov_i 0]) (pc2 := 202) b_312_201_1 rfl rfl ?_
            refine ov_goto (tgt := 218) d_312_202 (by decide) ?_
            exact ov_reti (st := []) d_312_218 rfl ⟨_, rfl, I1, ⟨rfl, rfl, rfl, rfl, rfl, rfl, rfl, rfl, rfl, rfl, rfl, rfl, (by show -2147483648 ≤ 0 ∧ 0 ≤ 2147483647; omega)⟩, rfl, rfl, rfl, rfl, rfl, rfl, rfl, rfl, rfl, rfl, rfl, rfl, rfl, rfl, rfl, rfl⟩
        by_cases q34 : m = 9
        · refine ov_tin (off := 158) (tgt := 219) d_312_61 (by omega) (by omega) (by rw [q34]; rfl) (by decide) ?_
          refine ov_blk (ls2 := [(0, ov_r 90), (1, ov_i m), (2, ov_i x2), (3, ov_i x3)]) (st2 := [ov_i x2]) (pc2 := 220) b_312_219_1 rfl rfl ?_
          exact ov_reti (st := []) d_312_220 rfl ⟨_, rfl, I1, ⟨rfl, rfl, rfl, rfl, rfl, rfl, rfl, rfl, rfl, rfl, rfl, rfl, (by show -2147483648 ≤ x2 ∧ x2 ≤ 2147483647; omega)⟩, rfl, rfl, rfl, rfl, rfl, rfl, rfl, rfl, rfl, rfl, rfl, rfl, rfl, rfl, rfl, rfl⟩
        by_cases q35 : m = 10
        · refine ov_tin (off := 160) (tgt := 221) d_312_61 (by omega) (by omega) (by rw [q35]; rfl) (by decide) ?_
          refine ov_blk (ls2 := [(0, ov_r 90), (1, ov_i m), (2, ov_i x2), (3, ov_i x3)]) (st2 := [ov_r 90]) (pc2 := 222) b_312_221_1 rfl rfl ?_
          refine ov_getf (v := ov_r 103) d_312_222 fl_Mo_102 (zb_90 I1) (zs_90 I1) (congrArg ov_r (rg_90_19 I1)) ?_
          refine ov_blk (ls2 := [(0, ov_r 90), (1, ov_i m), (2, ov_i x2), (3, ov_i x3)]) (st2 := [ov_i 58, ov_r 103]) (pc2 := 227) b_312_225_1 rfl rfl ?_
          refine ov_iald d_312_227 (zb_103 I1) (zs_103 I1) (by omega) ?_
          show ov_R u d ov_m312 228 [(0, ov_r 90), (1, ov_i m), (2, ov_i x2), (3, ov_i x3)] [ov_i (h 103 58)] z (ov_up h 90 0 0) (P_Mo_count_90 F z h m)
          have g36 := s103_58 I
          exact ov_reti (st := []) d_312_228 rfl ⟨_, rfl, I1, ⟨rfl, rfl, rfl, rfl, rfl, rfl, rfl, rfl, rfl, rfl, rfl, rfl, (by show -2147483648 ≤ (h 103 58) ∧ (h 103 58) ≤ 2147483647; omega)⟩, rfl, rfl, rfl, rfl, rfl, rfl, rfl, rfl, rfl, rfl, rfl, rfl, rfl, rfl, rfl, rfl⟩
        by_cases q37 : m = 11
        · refine ov_tin (off := 168) (tgt := 229) d_312_61 (by omega) (by omega) (by rw [q37]; rfl) (by decide) ?_
          refine ov_blk (ls2 := [(0, ov_r 90), (1, ov_i m), (2, ov_i x2), (3, ov_i x3)]) (st2 := [ov_r 90]) (pc2 := 230) b_312_229_1 rfl rfl ?_
          refine ov_getf (v := ov_r 103) d_312_230 fl_Mo_102 (zb_90 I1) (zs_90 I1) (congrArg ov_r (rg_90_19 I1)) ?_
          refine ov_blk (ls2 := [(0, ov_r 90), (1, ov_i m), (2, ov_i x2), (3, ov_i x3)]) (st2 := [ov_i 59, ov_r 103]) (pc2 := 235) b_312_233_1 rfl rfl ?_
          refine ov_iald d_312_235 (zb_103 I1) (zs_103 I1) (by omega) ?_
          show ov_R u d ov_m312 236 [(0, ov_r 90), (1, ov_i m), (2, ov_i x2), (3, ov_i x3)] [ov_i (h 103 59)] z (ov_up h 90 0 0) (P_Mo_count_90 F z h m)
          have g38 := s103_59 I
          exact ov_reti (st := []) d_312_236 rfl ⟨_, rfl, I1, ⟨rfl, rfl, rfl, rfl, rfl, rfl, rfl, rfl, rfl, rfl, rfl, rfl, (by show -2147483648 ≤ (h 103 59) ∧ (h 103 59) ≤ 2147483647; omega)⟩, rfl, rfl, rfl, rfl, rfl, rfl, rfl, rfl, rfl, rfl, rfl, rfl, rfl, rfl, rfl, rfl⟩
        by_cases q39 : m = 12
        · refine ov_tin (off := 176) (tgt := 237) d_312_61 (by omega) (by omega) (by rw [q39]; rfl) (by decide) ?_
          refine ov_blk (ls2 := [(0, ov_r 90), (1, ov_i m), (2, ov_i x2), (3, ov_i x3)]) (st2 := [ov_r 90]) (pc2 := 238) b_312_237_1 rfl rfl ?_
          refine ov_getf (v := ov_r 96) d_312_238 fl_Mo_81 (zb_90 I1) (zs_90 I1) (congrArg ov_r (rg_90_10 I1)) ?_
          refine ov_blk (ls2 := [(0, ov_r 90), (1, ov_i m), (2, ov_i x2), (3, ov_i x3)]) (st2 := [ov_i 9, ov_r 96]) (pc2 := 243) b_312_241_1 rfl rfl ?_
          refine ov_iald d_312_243 (zb_96 I1) (zs_96 I1) (by omega) ?_
          show ov_R u d ov_m312 244 [(0, ov_r 90), (1, ov_i m), (2, ov_i x2), (3, ov_i x3)] [ov_i (h 96 9)] z (ov_up h 90 0 0) (P_Mo_count_90 F z h m)
          have g40 := t96_9 I
          exact ov_reti (st := []) d_312_244 rfl ⟨_, rfl, I1, ⟨rfl, rfl, rfl, rfl, rfl, rfl, rfl, rfl, rfl, rfl, rfl, rfl, (by show -2147483648 ≤ (h 96 9) ∧ (h 96 9) ≤ 2147483647; omega)⟩, rfl, rfl, rfl, rfl, rfl, rfl, rfl, rfl, rfl, rfl, rfl, rfl, rfl, rfl, rfl, rfl⟩
        by_cases q41 : m = 13
        · refine ov_tin (off := 184) (tgt := 245) d_312_61 (by omega) (by omega) (by rw [q41]; rfl) (by decide) ?_
          refine ov_blk (ls2 := [(0, ov_r 90), (1, ov_i m), (2, ov_i x2), (3, ov_i x3)]) (st2 := [ov_r 90]) (pc2 := 246) b_312_245_1 rfl rfl ?_
          refine ov_getf (v := ov_i (h 90 20)) d_312_246 fl_Mo_319 (zb_90 I1) (zs_90 I1) rfl ?_
          have g42 := rg_90_20 I
          exact ov_reti (st := []) d_312_249 rfl ⟨_, rfl, I1, ⟨rfl, rfl, rfl, rfl, rfl, rfl, rfl, rfl, rfl, rfl, rfl, rfl, (by show -2147483648 ≤ (h 90 20) ∧ (h 90 20) ≤ 2147483647; omega)⟩, rfl, rfl, rfl, rfl, rfl, rfl, rfl, rfl, rfl, rfl, rfl, rfl, rfl, rfl, rfl, rfl⟩
        by_cases q43 : m = 14
        · refine ov_tin (off := 189) (tgt := 250) d_312_61 (by omega) (by omega) (by rw [q43]; rfl) (by decide) ?_
          refine ov_blk (ls2 := [(0, ov_r 90), (1, ov_i m), (2, ov_i x2), (3, ov_i x3)]) (st2 := [ov_r 90]) (pc2 := 251) b_312_250_1 rfl rfl ?_
          refine ov_getf (v := ov_i (h 90 2)) d_312_251 fl_Mo_11 (zb_90 I1) (zs_90 I1) rfl ?_
          have g44 := rg_90_2 I
          exact ov_reti (st := []) d_312_254 rfl ⟨_, rfl, I1, ⟨rfl, rfl, rfl, rfl, rfl, rfl, rfl, rfl, rfl, rfl, rfl, rfl, (by show -2147483648 ≤ (h 90 2) ∧ (h 90 2) ≤ 2147483647; omega)⟩, rfl, rfl, rfl, rfl, rfl, rfl, rfl, rfl, rfl, rfl, rfl, rfl, rfl, rfl, rfl, rfl⟩
        refine ov_tout (tgt := 255) d_312_61 (by omega) (by omega) (by decide) ?_
        refine ov_blk (ls2 := [(0, ov_r 90), (1, ov_i m), (2, ov_i x2), (3, ov_i x3)]) (st2 := [ov_i (-1)]) (pc2 := 256) b_312_255_1 rfl rfl ?_
        exact ov_reti (st := []) d_312_256 rfl ⟨_, rfl, I1, ⟨rfl, rfl, rfl, rfl, rfl, rfl, rfl, rfl, rfl, rfl, rfl, rfl, (by show -2147483648 ≤ (-1) ∧ (-1) ≤ 2147483647; omega)⟩, rfl, rfl, rfl, rfl, rfl, rfl, rfl, rfl, rfl, rfl, rfl, rfl, rfl, rfl, rfl, rfl⟩
      · skip
        refine ov_blk (ls2 := [(0, ov_r 90), (1, ov_i m), (2, ov_i x2), (3, ov_i x3)]) (st2 := [ov_i 6, ov_i x3, ov_r 90, ov_i x2]) (pc2 := 20) b_312_15_4 rfl rfl ?_
        refine ov_irem d_312_20 (by omega) (by omega) (by omega) ?_
        have g45 := ov_tm (a := x3) (b := 6) (by omega)
        have g46 := ov_tmg (a := x3) (b := 6) (by omega) (by omega)
        refine ov_blk (ls2 := [(0, ov_r 90), (1, ov_i m), (2, ov_i x2), (3, ov_i x3)]) (st2 := [ov_i 6, ov_i x3, ov_i (Int.tmod x3 6), ov_r 90, ov_i x2]) (pc2 := 24) b_312_21_2 rfl rfl ?_
        refine ov_idiv d_312_24 (by omega) (by omega) (by omega) ?_
        have g47 := ov_td (a := x3) (b := 6) (by omega)
        refine ov_cV (as := [ov_i (Int.tmod x3 6), ov_i (Int.tdiv x3 6)]) (st := [ov_i x2]) (d2 := d - 1) d_312_25 lk_Mo_282 rfl (Nat.le_of_ble_eq_true rfl) (c := 1) (zb_90 I1) (zs_90 I1) ⟨by decide, rfl⟩ (by omega) (c_Mo_kindAt_90 (d - 1) (by omega) U I1 (Int.tmod x3 6) (Int.tdiv x3 6) (by omega) (by omega) (by omega)) ?_
        rintro _ _ _ ⟨v49, rfl, rfl, rfl, f48⟩
        show ov_R u d ov_m312 28 [(0, ov_r 90), (1, ov_i m), (2, ov_i x2), (3, ov_i x3)] [ov_i v49, ov_i x2] z (ov_up h 90 0 0) (P_Mo_count_90 F z h m)
        have f50 : v49 = (h 96 (10 + 4 * (6 * (Int.tdiv x3 6) + (Int.tmod x3 6)))) - 1 ∧ -1 ≤ v49 ∧ v49 ≤ 3 := f48
        clear f48
        refine ov_blk (ls2 := [(0, ov_r 90), (1, ov_i m), (2, ov_i x2), (3, ov_i x3)]) (st2 := [ov_i 1, ov_i v49, ov_i x2]) (pc2 := 29) b_312_28_1 rfl rfl ?_
        refine ov_icne (tgt := 51) d_312_29 (by decide) (by omega) (by omega) (fun c51 => ?_) (fun c51 => ?_)
        · skip
          refine ov_blk (ls2 := [(0, ov_r 90), (1, ov_i m), (2, ov_i (x2 + 0)), (3, ov_i (x3 + 1))]) (st2 := []) (pc2 := 57) b_312_51_4 rfl rfl ?_
          refine ov_goto (tgt := 9) d_312_57 (by decide) ?_
          exact ih3 (x2 + 0) (x3 + 1) (by show 0 ≤ (x2 + 0) ∧ (x2 + 0) ≤ (x3 + 1) ∧ 0 ≤ (x3 + 1) ∧ (x3 + 1) ≤ 54; omega) (by omega)
        · skip
          refine ov_blk (ls2 := [(0, ov_r 90), (1, ov_i m), (2, ov_i x2), (3, ov_i x3)]) (st2 := [ov_i 6, ov_i x3, ov_r 90, ov_i x2]) (pc2 := 36) b_312_32_3 rfl rfl ?_
          refine ov_irem d_312_36 (by omega) (by omega) (by omega) ?_
          have g52 := ov_tm (a := x3) (b := 6) (by omega)
          have g53 := ov_tmg (a := x3) (b := 6) (by omega) (by omega)
          refine ov_blk (ls2 := [(0, ov_r 90), (1, ov_i m), (2, ov_i x2), (3, ov_i x3)]) (st2 := [ov_i 6, ov_i x3, ov_i (Int.tmod x3 6), ov_r 90, ov_i x2]) (pc2 := 40) b_312_37_2 rfl rfl ?_
          refine ov_idiv d_312_40 (by omega) (by omega) (by omega) ?_
          have g54 := ov_td (a := x3) (b := 6) (by omega)
          refine ov_cV (as := [ov_i (Int.tmod x3 6), ov_i (Int.tdiv x3 6)]) (st := [ov_i x2]) (d2 := d - 1) d_312_41 lk_Mo_302 rfl (Nat.le_of_ble_eq_true rfl) (c := 1) (zb_90 I1) (zs_90 I1) ⟨by decide, rfl⟩ (by omega) (c_Mo_isKnown_90 (d - 1) (by omega) U I1 (Int.tmod x3 6) (Int.tdiv x3 6) (by omega) (by omega) (by omega)) ?_
          rintro _ _ _ ⟨v56, rfl, rfl, rfl, f55⟩
          show ov_R u d ov_m312 44 [(0, ov_r 90), (1, ov_i m), (2, ov_i x2), (3, ov_i x3)] [ov_i v56, ov_i x2] z (ov_up h 90 0 0) (P_Mo_count_90 F z h m)
          have f57 : (v56 = 0 ∨ v56 = 1) ∧ (v56 = 1 → ((h 96 (10 + 4 * (6 * (Int.tdiv x3 6) + (Int.tmod x3 6)))) = 2 ∧ (h 103 (4 + 6 * (Int.tdiv x3 6) + (Int.tmod x3 6))) = 1)) ∧ (v56 = 0 → ¬ ((h 96 (10 + 4 * (6 * (Int.tdiv x3 6) + (Int.tmod x3 6)))) = 2 ∧ (h 103 (4 + 6 * (Int.tdiv x3 6) + (Int.tmod x3 6))) = 1)) := f55
          clear f55
          refine ov_ifne (tgt := 51) d_312_44 (by decide) (by omega) (fun c58 => ?_) (fun c58 => ?_)
          · skip
            have f57_ : v56 = 1 := by omega
            have f59 : ((h 96 (10 + 4 * (6 * (Int.tdiv x3 6) + (Int.tmod x3 6)))) = 2 ∧ (h 103 (4 + 6 * (Int.tdiv x3 6) + (Int.tmod x3 6))) = 1) := f57.2.1 (by omega)
            clear f57
            refine ov_blk (ls2 := [(0, ov_r 90), (1, ov_i m), (2, ov_i (x2 + 0)), (3, ov_i (x3 + 1))]) (st2 := []) (pc2 := 57) b_312_51_4 rfl rfl ?_
            refine ov_goto (tgt := 9) d_312_57 (by decide) ?_
            exact ih3 (x2 + 0) (x3 + 1) (by show 0 ≤ (x2 + 0) ∧ (x2 + 0) ≤ (x3 + 1) ∧ 0 ≤ (x3 + 1) ∧ (x3 + 1) ≤ 54; omega) (by omega)
          · skip
            have f57_ : v56 = 0 := by omega
            have f60 : ¬ ((h 96 (10 + 4 * (6 * (Int.tdiv x3 6) + (Int.tmod x3 6)))) = 2 ∧ (h 103 (4 + 6 * (Int.tdiv x3 6) + (Int.tmod x3 6))) = 1) := f57.2.2 (by omega)
            clear f57
            refine ov_blk (ls2 := [(0, ov_r 90), (1, ov_i m), (2, ov_i x2), (3, ov_i x3)]) (st2 := [ov_i 1, ov_i x2]) (pc2 := 48) b_312_47_1 rfl rfl ?_
            refine ov_goto (tgt := 52) d_312_48 (by decide) ?_
            refine ov_blk (ls2 := [(0, ov_r 90), (1, ov_i m), (2, ov_i (x2 + 1)), (3, ov_i (x3 + 1))]) (st2 := []) (pc2 := 57) b_312_52_3 rfl rfl ?_
            refine ov_goto (tgt := 9) d_312_57 (by decide) ?_
            exact ih3 (x2 + 1) (x3 + 1) (by show 0 ≤ (x2 + 1) ∧ (x2 + 1) ≤ (x3 + 1) ∧ 0 ≤ (x3 + 1) ∧ (x3 + 1) ≤ 54; omega) (by omega)
  exact L5 55 0 0 (by show 0 ≤ 0 ∧ 0 ≤ 0 ∧ 0 ≤ 0 ∧ 0 ≤ 54; omega) (by omega)
abbrev P_Mo_triesWave_90 (F : ov_H × ov_Z) (z : ov_Z) (h : ov_H) (i : Int) (m : Int) (rd : Int) (a : Int) (b : Int) (bo : Int) : Option ov_V → ov_Z → ov_H → Prop := fun r0 z' h' => r0 = none ∧ ov_N F z' h' ∧ ((h' 90 2) = (h 90 2) ∧ (h' 90 7) = (h 90 7) ∧ (h' 90 8) = (h 90 8) ∧ (h' 90 13) = (h 90 13) ∧ (h' 90 20) = (h 90 20) ∧ (h' 90 22) = (h 90 22) ∧ (h' 90 25) = (h 90 25) ∧ (h' 90 26) = (h 90 26) ∧ (h' 90 28) = (h 90 28) ∧ (h' 90 29) = (h 90 29) ∧ (h' 90 30) = (h 90 30) ∧ (h' 90 34) = (h 90 34)) ∧ h' 91 = h 91 ∧ h' 92 = h 92 ∧ h' 93 = h 93 ∧ h' 94 = h 94 ∧ h' 95 = h 95 ∧ h' 96 = h 96 ∧ h' 97 = h 97 ∧ h' 98 = h 98 ∧ h' 99 = h 99 ∧ h' 100 = h 100 ∧ h' 103 = h 103 ∧ h' 104 = h 104 ∧ h' 105 = h 105 ∧ h' 106 = h 106 ∧ h' 109 = h 109 ∧ h' 114 = h 114
set_option maxHeartbeats 4000000 in
theorem c_Mo_triesWave_90 {u : ov_U} {F : ov_H × ov_Z} (k : Nat) (HV : ∀ k' : Nat, k' < k → ∀ {z : ov_Z} {h : ov_H} (d : Nat) (hd : (10 + 2 * k' + 1) ≤ d) (U : ov_cap u) (I : ov_N F z h) (i : Int) (m : Int) (rd : Int) (a : Int) (b : Int) (bo : Int) (g_i : ov_g i) (g_m : ov_g m) (g_rd : ov_g rd) (g_bo : bo = 0 ∨ bo = 1) (p0 : 1 ≤ i ∧ i + (k' : Int) = m) (p1 : m ≤ 4) (p2 : 1 ≤ rd ∧ rd ≤ 60), ov_T u d ov_m299 [ov_r 90, ov_i i, ov_i m, ov_i rd, ov_l a, ov_l b, ov_i bo] z h (P_Mo_triesWave_90 F z h i m rd a b bo)) {z : ov_Z} {h : ov_H} (d : Nat) (hd : (10 + 2 * k + 1) ≤ d) (U : ov_cap u) (I : ov_N F z h) (i : Int) (m : Int) (rd : Int) (a : Int) (b : Int) (bo : Int) (g_i : ov_g i) (g_m : ov_g m) (g_rd : ov_g rd) (g_bo : bo = 0 ∨ bo = 1) (p0 : 1 ≤ i ∧ i + (k : Int) = m) (p1 : m ≤ 4) (p2 : 1 ≤ rd ∧ rd ≤ 60) : ov_T u d ov_m299 [ov_r 90, ov_i i, ov_i m, ov_i rd, ov_l a, ov_l b, ov_i bo] z h (P_Mo_triesWave_90 F z h i m rd a b bo) := by
  refine ov_en rfl (Nat.le_of_ble_eq_true rfl) ?_
  show ov_R u d ov_m299 0 [(0, ov_r 90), (1, ov_i i), (2, ov_i m), (3, ov_i rd), (4, ov_l a), (6, ov_l b), (8, ov_i bo)] [] z h (P_Mo_triesWave_90 F z h i m rd a b bo)
  have t0 := t96_0 I
  have t1 := t96_1 I
  refine ov_blk (ls2 := [(0, ov_r 90), (1, ov_i i), (2, ov_i m), (3, ov_i rd), (4, ov_l a), (6, ov_l b), (8, ov_i bo)]) (st2 := [ov_i m, ov_i i]) (pc2 := 2) b_299_0_2 rfl rfl ?_
  refine ov_icne (tgt := 72) d_299_2 (by decide) (by omega) (by omega) (fun c1 => ?_) (fun c1 => ?_)
  · skip
    refine ov_blk (ls2 := [(0, ov_r 90), (1, ov_i i), (2, ov_i m), (3, ov_i rd), (4, ov_l a), (6, ov_l b), (8, ov_i bo), (9, ov_i 0)]) (st2 := []) (pc2 := 75) b_299_72_2 rfl rfl ?_
    have L5 : ∀ (n2 : Nat) (x9 : Int) (z6 : ov_Z) (h7 : ov_H) (I8 : ov_N F z6 h7) (E9 : h7 91 = h 91) (E10 : h7 92 = h 92) (E11 : h7 93 = h 93) (E12 : h7 94 = h 94) (E13 : h7 95 = h 95) (E14 : h7 96 = h 96) (E15 : h7 97 = h 97) (E16 : h7 98 = h 98) (E17 : h7 99 = h 99) (E18 : h7 100 = h 100) (E19 : h7 103 = h 103) (E20 : h7 104 = h 104) (E21 : h7 105 = h 105) (E22 : h7 106 = h 106) (E23 : h7 109 = h 109) (E24 : h7 114 = h 114) (q4 : 0 ≤ x9 ∧ x9 ≤ 60 ∧ (h7 90 2) = (h 90 2) ∧ (h7 90 7) = (h 90 7) ∧ (h7 90 8) = (h 90 8) ∧ (h7 90 13) = (h 90 13) ∧ (h7 90 20) = (h 90 20) ∧ (h7 90 22) = (h 90 22) ∧ (h7 90 25) = (h 90 25) ∧ (h7 90 26) = (h 90 26) ∧ (h7 90 28) = (h 90 28) ∧ (h7 90 29) = (h 90 29) ∧ (h7 90 30) = (h 90 30) ∧ (h7 90 34) = (h 90 34)), 60 - x9 < (n2 : Int) → ov_R u d ov_m299 75 [(0, ov_r 90), (1, ov_i i), (2, ov_i m), (3, ov_i rd), (4, ov_l a), (6, ov_l b), (8, ov_i bo), (9, ov_i x9)] [] z6 h7 (P_Mo_triesWave_90 F z h i m rd a b bo) := by
      intro n2
      induction n2 with
      | zero =>
        intro x9 z6 h7 I8 E9 E10 E11 E12 E13 E14 E15 E16 E17 E18 E19 E20 E21 E22 E23 E24 q4 hn25
        exact absurd hn25 (by omega)
      | succ n2 ih3 =>
        intro x9 z6 h7 I8 E9 E10 E11 E12 E13 E14 E15 E16 E17 E18 E19 E20 E21 E22 E23 E24 q4 hn25
        refine ov_blk (ls2 := [(0, ov_r 90), (1, ov_i i), (2, ov_i m), (3, ov_i rd), (4, ov_l a), (6, ov_l b), (8, ov_i bo), (9, ov_i x9)]) (st2 := [ov_i rd, ov_i x9]) (pc2 := 78) b_299_75_2 rfl rfl ?_
        refine ov_icge (tgt := 136) d_299_78 (by decide) (by omega) (by omega) (fun c26 => ?_) (fun c26 => ?_)
        · skip
          exact ov_retv (st := []) d_299_136 rfl ⟨rfl, I8, (by show (h7 90 2) = (h 90 2) ∧ (h7 90 7) = (h 90 7) ∧ (h7 90 8) = (h 90 8) ∧ (h7 90 13) = (h 90 13) ∧ (h7 90 20) = (h 90 20) ∧ (h7 90 22) = (h 90 22) ∧ (h7 90 25) = (h 90 25) ∧ (h7 90 26) = (h 90 26) ∧ (h7 90 28) = (h 90 28) ∧ (h7 90 29) = (h 90 29) ∧ (h7 90 30) = (h 90 30) ∧ (h7 90 34) = (h 90 34); omega), E9, E10, E11, E12, E13, E14, E15, E16, E17, E18, E19, E20, E21, E22, E23, E24⟩
        · skip
          refine ov_blk (ls2 := [(0, ov_r 90), (1, ov_i i), (2, ov_i m), (3, ov_i rd), (4, ov_l a), (6, ov_l b), (8, ov_i bo), (9, ov_i x9)]) (st2 := [ov_r 90]) (pc2 := 82) b_299_81_1 rfl rfl ?_
          refine ov_getf (v := ov_r 112) d_299_82 fl_Mo_138 (zb_90 I8) (zs_90 I8) (congrArg ov_r (rg_90_40 I8)) ?_
          refine ov_blk (ls2 := [(0, ov_r 90), (1, ov_i i), (2, ov_i m), (3, ov_i rd), (4, ov_l a), (6, ov_l b), (8, ov_i bo), (9, ov_i x9)]) (st2 := [ov_i x9, ov_i i, ov_r 112]) (pc2 := 88) b_299_85_2 rfl rfl ?_
          refine ov_iast d_299_88 (zb_112 I8) (zs_112 I8) (by omega) ?_
          have I27 := ua_112 (k := i) (x := x9) I8 (by omega)
          refine ov_blk (ls2 := [(0, ov_r 90), (1, ov_i i), (2, ov_i m), (3, ov_i rd), (4, ov_l a), (6, ov_l b), (8, ov_i bo), (9, ov_i x9)]) (st2 := [ov_i (i + 1), ov_r 90]) (pc2 := 93) b_299_89_4 rfl rfl ?_
          refine ov_havw (fun w28 gw28 qw28 => ?_)
          refine ov_blk (ls2 := [(0, ov_r 90), (1, ov_i i), (2, ov_i m), (3, ov_i rd), (4, ov_l a), (6, ov_l b), (8, ov_i bo), (9, ov_i x9)]) (st2 := [ov_r 90, ov_l a, ov_i rd, ov_i m, ov_i w28, ov_r 90]) (pc2 := 98) b_299_93_4 rfl rfl ?_
          refine ov_getf (v := ov_r 110) d_299_98 fl_Mo_132 (zb_90 I27) (zs_90 I27) (congrArg ov_r (rg_90_38 I27)) ?_
          refine ov_blk (ls2 := [(0, ov_r 90), (1, ov_i i), (2, ov_i m), (3, ov_i rd), (4, ov_l a), (6, ov_l b), (8, ov_i bo), (9, ov_i x9)]) (st2 := [ov_i ((60 * i) + x9), ov_r 110, ov_l a, ov_i rd, ov_i m, ov_i w28, ov_r 90]) (pc2 := 108) b_299_101_5 rfl rfl ?_
          refine ov_havw (fun w29 gw29 qw29 => ?_)
          refine ov_lald d_299_108 (zb_110 I27) (zs_110 I27) (by omega) ?_
          show ov_R u d ov_m299 109 [(0, ov_r 90), (1, ov_i i), (2, ov_i m), (3, ov_i rd), (4, ov_l a), (6, ov_l b), (8, ov_i bo), (9, ov_i x9)] [ov_l (h7 110 w29), ov_l a, ov_i rd, ov_i m, ov_i w28, ov_r 90] z6 (ov_up h7 112 i x9) (P_Mo_triesWave_90 F z h i m rd a b bo)
          refine ov_blk (ls2 := [(0, ov_r 90), (1, ov_i i), (2, ov_i m), (3, ov_i rd), (4, ov_l a), (6, ov_l b), (8, ov_i bo), (9, ov_i x9)]) (st2 := [ov_r 90, ov_l b, ov_l (ov_land a (h7 110 w29)), ov_i rd, ov_i m, ov_i w28, ov_r 90]) (pc2 := 113) b_299_109_3 rfl rfl ?_
          refine ov_getf (v := ov_r 111) d_299_113 fl_Mo_135 (zb_90 I27) (zs_90 I27) (congrArg ov_r (rg_90_39 I27)) ?_
          refine ov_blk (ls2 := [(0, ov_r 90), (1, ov_i i), (2, ov_i m), (3, ov_i rd), (4, ov_l a), (6, ov_l b), (8, ov_i bo), (9, ov_i x9)]) (st2 := [ov_i ((60 * i) + x9), ov_r 111, ov_l b, ov_l (ov_land a (h7 110 w29)), ov_i rd, ov_i m, ov_i w28, ov_r 90]) (pc2 := 123) b_299_116_5 rfl rfl ?_
          refine ov_havw (fun w30 gw30 qw30 => ?_)
          refine ov_lald d_299_123 (zb_111 I27) (zs_111 I27) (by omega) ?_
          show ov_R u d ov_m299 124 [(0, ov_r 90), (1, ov_i i), (2, ov_i m), (3, ov_i rd), (4, ov_l a), (6, ov_l b), (8, ov_i bo), (9, ov_i x9)] [ov_l (h7 111 w30), ov_l b, ov_l (ov_land a (h7 110 w29)), ov_i rd, ov_i m, ov_i w28, ov_r 90] z6 (ov_up h7 112 i x9) (P_Mo_triesWave_90 F z h i m rd a b bo)
          refine ov_blk (ls2 := [(0, ov_r 90), (1, ov_i i), (2, ov_i m), (3, ov_i rd), (4, ov_l a), (6, ov_l b), (8, ov_i bo), (9, ov_i x9)]) (st2 := [ov_i bo, ov_l (ov_land b (h7 111 w30)), ov_l (ov_land a (h7 110 w29)), ov_i rd, ov_i m, ov_i w28, ov_r 90]) (pc2 := 127) b_299_124_2 rfl rfl ?_
          refine ov_cV (as := [ov_i w28, ov_i m, ov_i rd, ov_l (ov_land a (h7 110 w29)), ov_l (ov_land b (h7 111 w30)), ov_i bo]) (st := []) (d2 := d - 1) d_299_127 lk_Mo_442 rfl (Nat.le_of_ble_eq_true rfl) (c := 1) (zb_90 I27) (zs_90 I27) ⟨by decide, rfl⟩ (by omega) (HV (Int.toNat ((m) - (w28))) (by omega) (d - 1) (by omega) U I27 w28 m rd (ov_land a (h7 110 w29)) (ov_land b (h7 111 w30)) bo (by omega) (by omega) (by omega) (by omega) (by omega) (by omega) (by omega)) ?_
          rintro _ z48 h49 ⟨rfl, I50, f31, e32, e33, e34, e35, e36, e37, e38, e39, e40, e41, e42, e43, e44, e45, e46, e47⟩
          have E51 : h49 91 = h 91 := Eq.trans e32 E9
          have E52 : h49 92 = h 92 := Eq.trans e33 E10
          have E53 : h49 93 = h 93 := Eq.trans e34 E11
          have E54 : h49 94 = h 94 := Eq.trans e35 E12
          have E55 : h49 95 = h 95 := Eq.trans e36 E13
          have E56 : h49 96 = h 96 := Eq.trans e37 E14
          have E57 : h49 97 = h 97 := Eq.trans e38 E15
          have E58 : h49 98 = h 98 := Eq.trans e39 E16
          have E59 : h49 99 = h 99 := Eq.trans e40 E17
          have E60 : h49 100 = h 100 := Eq.trans e41 E18
          have E61 : h49 103 = h 103 := Eq.trans e42 E19
          have E62 : h49 104 = h 104 := Eq.trans e43 E20
          have E63 : h49 105 = h 105 := Eq.trans e44 E21
          have E64 : h49 106 = h 106 := Eq.trans e45 E22
          have E65 : h49 109 = h 109 := Eq.trans e46 E23
          have E66 : h49 114 = h 114 := Eq.trans e47 E24
          show ov_R u d ov_m299 130 [(0, ov_r 90), (1, ov_i i), (2, ov_i m), (3, ov_i rd), (4, ov_l a), (6, ov_l b), (8, ov_i bo), (9, ov_i x9)] [] z48 h49 (P_Mo_triesWave_90 F z h i m rd a b bo)
          have f67 : (h49 90 2) = (h7 90 2) ∧ (h49 90 7) = (h7 90 7) ∧ (h49 90 8) = (h7 90 8) ∧ (h49 90 13) = (h7 90 13) ∧ (h49 90 20) = (h7 90 20) ∧ (h49 90 22) = (h7 90 22) ∧ (h49 90 25) = (h7 90 25) ∧ (h49 90 26) = (h7 90 26) ∧ (h49 90 28) = (h7 90 28) ∧ (h49 90 29) = (h7 90 29) ∧ (h49 90 30) = (h7 90 30) ∧ (h49 90 34) = (h7 90 34) := f31
          clear f31
          refine ov_blk (ls2 := [(0, ov_r 90), (1, ov_i i), (2, ov_i m), (3, ov_i rd), (4, ov_l a), (6, ov_l b), (8, ov_i bo), (9, ov_i (x9 + 1))]) (st2 := []) (pc2 := 133) b_299_130_1 rfl rfl ?_
          refine ov_goto (tgt := 75) d_299_133 (by decide) ?_
          exact ih3 (x9 + 1) _ _ I50 E51 E52 E53 E54 E55 E56 E57 E58 E59 E60 E61 E62 E63 E64 E65 E66 (by show 0 ≤ (x9 + 1) ∧ (x9 + 1) ≤ 60 ∧ (h49 90 2) = (h 90 2) ∧ (h49 90 7) = (h 90 7) ∧ (h49 90 8) = (h 90 8) ∧ (h49 90 13) = (h 90 13) ∧ (h49 90 20) = (h 90 20) ∧ (h49 90 22) = (h 90 22) ∧ (h49 90 25) = (h 90 25) ∧ (h49 90 26) = (h 90 26) ∧ (h49 90 28) = (h 90 28) ∧ (h49 90 29) = (h 90 29) ∧ (h49 90 30) = (h 90 30) ∧ (h49 90 34) = (h 90 34); omega) (by omega)
    exact L5 61 0 _ _ I rfl rfl rfl rfl rfl rfl rfl rfl rfl rfl rfl rfl rfl rfl rfl rfl (by show 0 ≤ 0 ∧ 0 ≤ 60 ∧ (h 90 2) = (h 90 2) ∧ (h 90 7) = (h 90 7) ∧ (h 90 8) = (h 90 8) ∧ (h 90 13) = (h 90 13) ∧ (h 90 20) = (h 90 20) ∧ (h 90 22) = (h 90 22) ∧ (h 90 25) = (h 90 25) ∧ (h 90 26) = (h 90 26) ∧ (h 90 28) = (h 90 28) ∧ (h 90 29) = (h 90 29) ∧ (h 90 30) = (h 90 30) ∧ (h 90 34) = (h 90 34); omega) (by omega)
  · skip
    refine ov_blk (ls2 := [(0, ov_r 90), (1, ov_i i), (2, ov_i m), (3, ov_i rd), (4, ov_l a), (6, ov_l b), (8, ov_i bo)]) (st2 := [ov_l a]) (pc2 := 7) b_299_5_1 rfl rfl ?_
    refine ov_cS (as := [ov_l a]) (st := []) (d2 := d - 1) d_299_7 lk_Mo_435 rfl (Nat.le_of_ble_eq_true rfl) (by omega) (c_Mo_ones (d - 1) (by omega) U I a) ?_
    rintro _ _ _ ⟨v69, rfl, rfl, rfl, f68⟩
    show ov_R u d ov_m299 10 [(0, ov_r 90), (1, ov_i i), (2, ov_i m), (3, ov_i rd), (4, ov_l a), (6, ov_l b), (8, ov_i bo)] [ov_i v69] z h (P_Mo_triesWave_90 F z h i m rd a b bo)
    have f70 : -2147483648 ≤ v69 ∧ v69 ≤ 2147483647 := f68
    clear f68
    refine ov_blk (ls2 := [(0, ov_r 90), (1, ov_i i), (2, ov_i m), (3, ov_i rd), (4, ov_l a), (6, ov_l b), (8, ov_i bo)]) (st2 := [ov_i bo, ov_i v69]) (pc2 := 12) b_299_10_1 rfl rfl ?_
    refine ov_ifeq (tgt := 23) d_299_12 (by decide) (by omega) (fun c71 => ?_) (fun c71 => ?_)
    · skip
      refine ov_blk (ls2 := [(0, ov_r 90), (1, ov_i i), (2, ov_i m), (3, ov_i rd), (4, ov_l a), (6, ov_l b), (8, ov_i bo)]) (st2 := [ov_i (v69 + 0)]) (pc2 := 25) b_299_23_2 rfl rfl ?_
      refine ov_havw (fun w72 gw72 qw72 => ?_)
      refine ov_blk (ls2 := [(0, ov_r 90), (1, ov_i i), (2, ov_i m), (3, ov_i rd), (4, ov_l a), (6, ov_l b), (8, ov_i bo), (9, ov_i w72)]) (st2 := [ov_r 90, ov_i w72]) (pc2 := 30) b_299_25_3 rfl rfl ?_
      refine ov_getf (v := ov_i (h 90 42)) d_299_30 fl_Mo_439 (zb_90 I) (zs_90 I) rfl ?_
      have g73 := rg_90_42 I
      refine ov_icle (tgt := 71) d_299_33 (by decide) (by omega) (by omega) (fun c74 => ?_) (fun c74 => ?_)
      · skip
        exact ov_retv (st := []) d_299_71 rfl ⟨rfl, I, ⟨rfl, rfl, rfl, rfl, rfl, rfl, rfl, rfl, rfl, rfl, rfl, rfl⟩, rfl, rfl, rfl, rfl, rfl, rfl, rfl, rfl, rfl, rfl, rfl, rfl, rfl, rfl, rfl, rfl⟩
      · skip
        refine ov_blk (ls2 := [(0, ov_r 90), (1, ov_i i), (2, ov_i m), (3, ov_i rd), (4, ov_l a), (6, ov_l b), (8, ov_i bo), (9, ov_i w72)]) (st2 := [ov_i w72, ov_r 90]) (pc2 := 39) b_299_36_2 rfl rfl ?_
        refine ov_putf (x := w72) d_299_39 fl_Mo_439 (zb_90 I) (zs_90 I) rfl nk_0 rfl ?_
        have I75 := up_90_42 (x := w72) I (by omega)
        refine ov_blk (ls2 := [(0, ov_r 90), (1, ov_i i), (2, ov_i m), (3, ov_i rd), (4, ov_l a), (6, ov_l b), (8, ov_i bo), (9, ov_i w72), (10, ov_i 0)]) (st2 := []) (pc2 := 45) b_299_42_2 rfl rfl ?_
        have L79 : ∀ (n76 : Nat) (x10 : Int) (z80 : ov_Z) (h81 : ov_H) (I82 : ov_N F z80 h81) (E83 : h81 91 = h 91) (E84 : h81 92 = h 92) (E85 : h81 93 = h 93) (E86 : h81 94 = h 94) (E87 : h81 95 = h 95) (E88 : h81 96 = h 96) (E89 : h81 97 = h 97) (E90 : h81 98 = h 98) (E91 : h81 99 = h 99) (E92 : h81 100 = h 100) (E93 : h81 103 = h 103) (E94 : h81 104 = h 104) (E95 : h81 105 = h 105) (E96 : h81 106 = h 106) (E97 : h81 109 = h 109) (E98 : h81 114 = h 114) (q78 : 0 ≤ x10 ∧ x10 ≤ 4 ∧ (h81 90 2) = (h 90 2) ∧ (h81 90 7) = (h 90 7) ∧ (h81 90 8) = (h 90 8) ∧ (h81 90 13) = (h 90 13) ∧ (h81 90 20) = (h 90 20) ∧ (h81 90 22) = (h 90 22) ∧ (h81 90 25) = (h 90 25) ∧ (h81 90 26) = (h 90 26) ∧ (h81 90 28) = (h 90 28) ∧ (h81 90 29) = (h 90 29) ∧ (h81 90 30) = (h 90 30) ∧ (h81 90 34) = (h 90 34)), 4 - x10 < (n76 : Int) → ov_R u d ov_m299 45 [(0, ov_r 90), (1, ov_i i), (2, ov_i m), (3, ov_i rd), (4, ov_l a), (6, ov_l b), (8, ov_i bo), (9, ov_i w72), (10, ov_i x10)] [] z80 h81 (P_Mo_triesWave_90 F z h i m rd a b bo) := by
          intro n76
          induction n76 with
          | zero =>
            intro x10 z80 h81 I82 E83 E84 E85 E86 E87 E88 E89 E90 E91 E92 E93 E94 E95 E96 E97 E98 q78 hn99
            exact absurd hn99 (by omega)
          | succ n76 ih77 =>
            intro x10 z80 h81 I82 E83 E84 E85 E86 E87 E88 E89 E90 E91 E92 E93 E94 E95 E96 E97 E98 q78 hn99
            refine ov_blk (ls2 := [(0, ov_r 90), (1, ov_i i), (2, ov_i m), (3, ov_i rd), (4, ov_l a), (6, ov_l b), (8, ov_i bo), (9, ov_i w72), (10, ov_i x10)]) (st2 := [ov_i m, ov_i x10]) (pc2 := 48) b_299_45_2 rfl rfl ?_
            refine ov_icge (tgt := 71) d_299_48 (by decide) (by omega) (by omega) (fun c100 => ?_) (fun c100 => ?_)
            · skip
              exact ov_retv (st := []) d_299_71 rfl ⟨rfl, I82, (by show (h81 90 2) = (h 90 2) ∧ (h81 90 7) = (h 90 7) ∧ (h81 90 8) = (h 90 8) ∧ (h81 90 13) = (h 90 13) ∧ (h81 90 20) = (h 90 20) ∧ (h81 90 22) = (h 90 22) ∧ (h81 90 25) = (h 90 25) ∧ (h81 90 26) = (h 90 26) ∧ (h81 90 28) = (h 90 28) ∧ (h81 90 29) = (h 90 29) ∧ (h81 90 30) = (h 90 30) ∧ (h81 90 34) = (h 90 34); omega), E83, E84, E85, E86, E87, E88, E89, E90, E91, E92, E93, E94, E95, E96, E97, E98⟩
            · skip
              refine ov_blk (ls2 := [(0, ov_r 90), (1, ov_i i), (2, ov_i m), (3, ov_i rd), (4, ov_l a), (6, ov_l b), (8, ov_i bo), (9, ov_i w72), (10, ov_i x10)]) (st2 := [ov_r 90]) (pc2 := 52) b_299_51_1 rfl rfl ?_
              refine ov_getf (v := ov_r 113) d_299_52 fl_Mo_141 (zb_90 I82) (zs_90 I82) (congrArg ov_r (rg_90_41 I82)) ?_
              refine ov_blk (ls2 := [(0, ov_r 90), (1, ov_i i), (2, ov_i m), (3, ov_i rd), (4, ov_l a), (6, ov_l b), (8, ov_i bo), (9, ov_i w72), (10, ov_i x10)]) (st2 := [ov_r 90, ov_i x10, ov_r 113]) (pc2 := 58) b_299_55_2 rfl rfl ?_
              refine ov_getf (v := ov_r 112) d_299_58 fl_Mo_138 (zb_90 I82) (zs_90 I82) (congrArg ov_r (rg_90_40 I82)) ?_
              refine ov_blk (ls2 := [(0, ov_r 90), (1, ov_i i), (2, ov_i m), (3, ov_i rd), (4, ov_l a), (6, ov_l b), (8, ov_i bo), (9, ov_i w72), (10, ov_i x10)]) (st2 := [ov_i x10, ov_r 112, ov_i x10, ov_r 113]) (pc2 := 63) b_299_61_1 rfl rfl ?_
              refine ov_iald d_299_63 (zb_112 I82) (zs_112 I82) (by omega) ?_
              have g101 := ra_112 I82 x10
              refine ov_iast d_299_64 (zb_113 I82) (zs_113 I82) (by omega) ?_
              have I102 := ua_113 (k := x10) (x := (h81 112 x10)) I82 (by omega)
              refine ov_blk (ls2 := [(0, ov_r 90), (1, ov_i i), (2, ov_i m), (3, ov_i rd), (4, ov_l a), (6, ov_l b), (8, ov_i bo), (9, ov_i w72), (10, ov_i (x10 + 1))]) (st2 := []) (pc2 := 68) b_299_65_1 rfl rfl ?_
              refine ov_goto (tgt := 45) d_299_68 (by decide) ?_
              exact ih77 (x10 + 1) _ _ I102 E83 E84 E85 E86 E87 E88 E89 E90 E91 E92 E93 E94 E95 E96 E97 E98 (by show 0 ≤ (x10 + 1) ∧ (x10 + 1) ≤ 4 ∧ (h81 90 2) = (h 90 2) ∧ (h81 90 7) = (h 90 7) ∧ (h81 90 8) = (h 90 8) ∧ (h81 90 13) = (h 90 13) ∧ (h81 90 20) = (h 90 20) ∧ (h81 90 22) = (h 90 22) ∧ (h81 90 25) = (h 90 25) ∧ (h81 90 26) = (h 90 26) ∧ (h81 90 28) = (h 90 28) ∧ (h81 90 29) = (h 90 29) ∧ (h81 90 30) = (h 90 30) ∧ (h81 90 34) = (h 90 34); omega) (by omega)
        exact L79 5 0 _ _ I75 rfl rfl rfl rfl rfl rfl rfl rfl rfl rfl rfl rfl rfl rfl rfl rfl (by show 0 ≤ 0 ∧ 0 ≤ 4 ∧ (h 90 2) = (h 90 2) ∧ (h 90 7) = (h 90 7) ∧ (h 90 8) = (h 90 8) ∧ (h 90 13) = (h 90 13) ∧ (h 90 20) = (h 90 20) ∧ (h 90 22) = (h 90 22) ∧ (h 90 25) = (h 90 25) ∧ (h 90 26) = (h 90 26) ∧ (h 90 28) = (h 90 28) ∧ (h 90 29) = (h 90 29) ∧ (h 90 30) = (h 90 30) ∧ (h 90 34) = (h 90 34); omega) (by omega)
    · skip
      refine ov_blk (ls2 := [(0, ov_r 90), (1, ov_i i), (2, ov_i m), (3, ov_i rd), (4, ov_l a), (6, ov_l b), (8, ov_i bo)]) (st2 := [ov_l b, ov_i v69]) (pc2 := 17) b_299_15_1 rfl rfl ?_
      refine ov_cS (as := [ov_l b]) (st := [ov_i v69]) (d2 := d - 1) d_299_17 lk_Mo_435 rfl (Nat.le_of_ble_eq_true rfl) (by omega) (c_Mo_ones (d - 1) (by omega) U I b) ?_
      rintro _ _ _ ⟨v104, rfl, rfl, rfl, f103⟩
      show ov_R u d ov_m299 20 [(0, ov_r 90), (1, ov_i i), (2, ov_i m), (3, ov_i rd), (4, ov_l a), (6, ov_l b), (8, ov_i bo)] [ov_i v104, ov_i v69] z h (P_Mo_triesWave_90 F z h i m rd a b bo)
      have f105 : -2147483648 ≤ v104 ∧ v104 ≤ 2147483647 := f103
      clear f103
      refine ov_goto (tgt := 24) d_299_20 (by decide) ?_
      refine ov_blk (ls2 := [(0, ov_r 90), (1, ov_i i), (2, ov_i m), (3, ov_i rd), (4, ov_l a), (6, ov_l b), (8, ov_i bo)]) (st2 := [ov_i (v69 + v104)]) (pc2 := 25) b_299_24_1 rfl rfl ?_
      refine ov_havw (fun w106 gw106 qw106 => ?_)
      refine ov_blk (ls2 := [(0, ov_r 90), (1, ov_i i), (2, ov_i m), (3, ov_i rd), (4, ov_l a), (6, ov_l b), (8, ov_i bo), (9, ov_i w106)]) (st2 := [ov_r 90, ov_i w106]) (pc2 := 30) b_299_25_3 rfl rfl ?_
      refine ov_getf (v := ov_i (h 90 42)) d_299_30 fl_Mo_439 (zb_90 I) (zs_90 I) rfl ?_
      have g107 := rg_90_42 I
      refine ov_icle (tgt := 71) d_299_33 (by decide) (by omega) (by omega) (fun c108 => ?_) (fun c108 => ?_)
      · skip
        exact ov_retv (st := []) d_299_71 rfl ⟨rfl, I, ⟨rfl, rfl, rfl, rfl, rfl, rfl, rfl, rfl, rfl, rfl, rfl, rfl⟩, rfl, rfl, rfl, rfl, rfl, rfl, rfl, rfl, rfl, rfl, rfl, rfl, rfl, rfl, rfl, rfl⟩
      · skip
        refine ov_blk (ls2 := [(0, ov_r 90), (1, ov_i i), (2, ov_i m), (3, ov_i rd), (4, ov_l a), (6, ov_l b), (8, ov_i bo), (9, ov_i w106)]) (st2 := [ov_i w106, ov_r 90]) (pc2 := 39) b_299_36_2 rfl rfl ?_
        refine ov_putf (x := w106) d_299_39 fl_Mo_439 (zb_90 I) (zs_90 I) rfl nk_0 rfl ?_
        have I109 := up_90_42 (x := w106) I (by omega)
        refine ov_blk (ls2 := [(0, ov_r 90), (1, ov_i i), (2, ov_i m), (3, ov_i rd), (4, ov_l a), (6, ov_l b), (8, ov_i bo), (9, ov_i w106), (10, ov_i 0)]) (st2 := []) (pc2 := 45) b_299_42_2 rfl rfl ?_
        have L113 : ∀ (n110 : Nat) (x10_ : Int) (z114 : ov_Z) (h115 : ov_H) (I116 : ov_N F z114 h115) (E117 : h115 91 = h 91) (E118 : h115 92 = h 92) (E119 : h115 93 = h 93) (E120 : h115 94 = h 94) (E121 : h115 95 = h 95) (E122 : h115 96 = h 96) (E123 : h115 97 = h 97) (E124 : h115 98 = h 98) (E125 : h115 99 = h 99) (E126 : h115 100 = h 100) (E127 : h115 103 = h 103) (E128 : h115 104 = h 104) (E129 : h115 105 = h 105) (E130 : h115 106 = h 106) (E131 : h115 109 = h 109) (E132 : h115 114 = h 114) (q112 : 0 ≤ x10_ ∧ x10_ ≤ 4 ∧ (h115 90 2) = (h 90 2) ∧ (h115 90 7) = (h 90 7) ∧ (h115 90 8) = (h 90 8) ∧ (h115 90 13) = (h 90 13) ∧ (h115 90 20) = (h 90 20) ∧ (h115 90 22) = (h 90 22) ∧ (h115 90 25) = (h 90 25) ∧ (h115 90 26) = (h 90 26) ∧ (h115 90 28) = (h 90 28) ∧ (h115 90 29) = (h 90 29) ∧ (h115 90 30) = (h 90 30) ∧ (h115 90 34) = (h 90 34)), 4 - x10_ < (n110 : Int) → ov_R u d ov_m299 45 [(0, ov_r 90), (1, ov_i i), (2, ov_i m), (3, ov_i rd), (4, ov_l a), (6, ov_l b), (8, ov_i bo), (9, ov_i w106), (10, ov_i x10_)] [] z114 h115 (P_Mo_triesWave_90 F z h i m rd a b bo) := by
          intro n110
          induction n110 with
          | zero =>
            intro x10_ z114 h115 I116 E117 E118 E119 E120 E121 E122 E123 E124 E125 E126 E127 E128 E129 E130 E131 E132 q112 hn133
            exact absurd hn133 (by omega)
          | succ n110 ih111 =>
            intro x10_ z114 h115 I116 E117 E118 E119 E120 E121 E122 E123 E124 E125 E126 E127 E128 E129 E130 E131 E132 q112 hn133
            refine ov_blk (ls2 := [(0, ov_r 90), (1, ov_i i), (2, ov_i m), (3, ov_i rd), (4, ov_l a), (6, ov_l b), (8, ov_i bo), (9, ov_i w106), (10, ov_i x10_)]) (st2 := [ov_i m, ov_i x10_]) (pc2 := 48) b_299_45_2 rfl rfl ?_
            refine ov_icge (tgt := 71) d_299_48 (by decide) (by omega) (by omega) (fun c134 => ?_) (fun c134 => ?_)
            · skip
              exact ov_retv (st := []) d_299_71 rfl ⟨rfl, I116, (by show (h115 90 2) = (h 90 2) ∧ (h115 90 7) = (h 90 7) ∧ (h115 90 8) = (h 90 8) ∧ (h115 90 13) = (h 90 13) ∧ (h115 90 20) = (h 90 20) ∧ (h115 90 22) = (h 90 22) ∧ (h115 90 25) = (h 90 25) ∧ (h115 90 26) = (h 90 26) ∧ (h115 90 28) = (h 90 28) ∧ (h115 90 29) = (h 90 29) ∧ (h115 90 30) = (h 90 30) ∧ (h115 90 34) = (h 90 34); omega), E117, E118, E119, E120, E121, E122, E123, E124, E125, E126, E127, E128, E129, E130, E131, E132⟩
            · skip
              refine ov_blk (ls2 := [(0, ov_r 90), (1, ov_i i), (2, ov_i m), (3, ov_i rd), (4, ov_l a), (6, ov_l b), (8, ov_i bo), (9, ov_i w106), (10, ov_i x10_)]) (st2 := [ov_r 90]) (pc2 := 52) b_299_51_1 rfl rfl ?_
              refine ov_getf (v := ov_r 113) d_299_52 fl_Mo_141 (zb_90 I116) (zs_90 I116) (congrArg ov_r (rg_90_41 I116)) ?_
              refine ov_blk (ls2 := [(0, ov_r 90), (1, ov_i i), (2, ov_i m), (3, ov_i rd), (4, ov_l a), (6, ov_l b), (8, ov_i bo), (9, ov_i w106), (10, ov_i x10_)]) (st2 := [ov_r 90, ov_i x10_, ov_r 113]) (pc2 := 58) b_299_55_2 rfl rfl ?_
              refine ov_getf (v := ov_r 112) d_299_58 fl_Mo_138 (zb_90 I116) (zs_90 I116) (congrArg ov_r (rg_90_40 I116)) ?_
              refine ov_blk (ls2 := [(0, ov_r 90), (1, ov_i i), (2, ov_i m), (3, ov_i rd), (4, ov_l a), (6, ov_l b), (8, ov_i bo), (9, ov_i w106), (10, ov_i x10_)]) (st2 := [ov_i x10_, ov_r 112, ov_i x10_, ov_r 113]) (pc2 := 63) b_299_61_1 rfl rfl ?_
              refine ov_iald d_299_63 (zb_112 I116) (zs_112 I116) (by omega) ?_
              have g135 := ra_112 I116 x10_
              refine ov_iast d_299_64 (zb_113 I116) (zs_113 I116) (by omega) ?_
              have I136 := ua_113 (k := x10_) (x := (h115 112 x10_)) I116 (by omega)
              refine ov_blk (ls2 := [(0, ov_r 90), (1, ov_i i), (2, ov_i m), (3, ov_i rd), (4, ov_l a), (6, ov_l b), (8, ov_i bo), (9, ov_i w106), (10, ov_i (x10_ + 1))]) (st2 := []) (pc2 := 68) b_299_65_1 rfl rfl ?_
              refine ov_goto (tgt := 45) d_299_68 (by decide) ?_
              exact ih111 (x10_ + 1) _ _ I136 E117 E118 E119 E120 E121 E122 E123 E124 E125 E126 E127 E128 E129 E130 E131 E132 (by show 0 ≤ (x10_ + 1) ∧ (x10_ + 1) ≤ 4 ∧ (h115 90 2) = (h 90 2) ∧ (h115 90 7) = (h 90 7) ∧ (h115 90 8) = (h 90 8) ∧ (h115 90 13) = (h 90 13) ∧ (h115 90 20) = (h 90 20) ∧ (h115 90 22) = (h 90 22) ∧ (h115 90 25) = (h 90 25) ∧ (h115 90 26) = (h 90 26) ∧ (h115 90 28) = (h 90 28) ∧ (h115 90 29) = (h 90 29) ∧ (h115 90 30) = (h 90 30) ∧ (h115 90 34) = (h 90 34); omega) (by omega)
        exact L113 5 0 _ _ I109 rfl rfl rfl rfl rfl rfl rfl rfl rfl rfl rfl rfl rfl rfl rfl rfl (by show 0 ≤ 0 ∧ 0 ≤ 4 ∧ (h 90 2) = (h 90 2) ∧ (h 90 7) = (h 90 7) ∧ (h 90 8) = (h 90 8) ∧ (h 90 13) = (h 90 13) ∧ (h 90 20) = (h 90 20) ∧ (h 90 22) = (h 90 22) ∧ (h 90 25) = (h 90 25) ∧ (h 90 26) = (h 90 26) ∧ (h 90 28) = (h 90 28) ∧ (h 90 29) = (h 90 29) ∧ (h 90 30) = (h 90 30) ∧ (h 90 34) = (h 90 34); omega) (by omega)
theorem c_Mo_triesWave_90_all {u : ov_U} {F : ov_H × ov_Z} (k : Nat) : ∀ {z : ov_Z} {h : ov_H} (d : Nat) (hd : (10 + 2 * k + 1) ≤ d) (U : ov_cap u) (I : ov_N F z h) (i : Int) (m : Int) (rd : Int) (a : Int) (b : Int) (bo : Int) (g_i : ov_g i) (g_m : ov_g m) (g_rd : ov_g rd) (g_bo : bo = 0 ∨ bo = 1) (p0 : 1 ≤ i ∧ i + (k : Int) = m) (p1 : m ≤ 4) (p2 : 1 ≤ rd ∧ rd ≤ 60), ov_T u d ov_m299 [ov_r 90, ov_i i, ov_i m, ov_i rd, ov_l a, ov_l b, ov_i bo] z h (P_Mo_triesWave_90 F z h i m rd a b bo) := by
  induction k using Nat.strongRecOn with
  | ind k ih => exact fun {z} {h} => @c_Mo_triesWave_90 u F k (fun k' hk => @ih k' hk) z h
abbrev P_Mo_wave_90 (F : ov_H × ov_Z) (z : ov_Z) (h : ov_H) (x : Int) (y : Int) (m : Int) (bo : Int) (w : Int) : Option ov_V → ov_Z → ov_H → Prop := fun r0 z' h' => ∃ r : Int, r0 = some (ov_i r) ∧ ov_N F z' h' ∧ ((h' 90 2) = (h 90 2) ∧ (h' 90 7) = (h 90 7) ∧ (h' 90 8) = (h 90 8) ∧ (h' 90 13) = (h 90 13) ∧ (h' 90 20) = (h 90 20) ∧ (h' 90 22) = (h 90 22) ∧ (h' 90 25) = (h 90 25) ∧ (h' 90 26) = (h 90 26) ∧ (h' 90 28) = (h 90 28) ∧ (h' 90 29) = (h 90 29) ∧ (h' 90 30) = (h 90 30) ∧ (h' 90 34) = (h 90 34) ∧ -2147483648 ≤ r ∧ r ≤ 2147483647) ∧ h' 91 = h 91 ∧ h' 92 = h 92 ∧ h' 93 = h 93 ∧ h' 94 = h 94 ∧ h' 95 = h 95 ∧ h' 96 = h 96 ∧ h' 97 = h 97 ∧ h' 98 = h 98 ∧ h' 99 = h 99 ∧ h' 100 = h 100 ∧ h' 103 = h 103 ∧ h' 104 = h 104 ∧ h' 105 = h 105 ∧ h' 106 = h 106 ∧ h' 109 = h 109 ∧ h' 114 = h 114
set_option maxHeartbeats 4000000 in
theorem c_Mo_wave_90 {u : ov_U} {F : ov_H × ov_Z} {z : ov_Z} {h : ov_H} (d : Nat) (hd : 40 ≤ d) (U : ov_cap u) (I : ov_N F z h) (x : Int) (y : Int) (m : Int) (bo : Int) (w : Int) (g_x : ov_g x) (g_y : ov_g y) (g_m : ov_g m) (g_bo : bo = 0 ∨ bo = 1) (g_w : ov_g w) (W : ov_WT (h 96)) : ov_T u d ov_m297 [ov_r 90, ov_i x, ov_i y, ov_i m, ov_i bo, ov_i w] z h (P_Mo_wave_90 F z h x y m bo w) := by
  refine ov_en rfl (Nat.le_of_ble_eq_true rfl) ?_
  show ov_R u d ov_m297 0 [(0, ov_r 90), (1, ov_i x), (2, ov_i y), (3, ov_i m), (4, ov_i bo), (5, ov_i w)] [] z h (P_Mo_wave_90 F z h x y m bo w)
  have t0 := t96_0 I
  have t1 := t96_1 I
  refine ov_blk (ls2 := [(0, ov_r 90), (1, ov_i x), (2, ov_i y), (3, ov_i m), (4, ov_i bo), (5, ov_i w)]) (st2 := [ov_i 0, ov_r 90]) (pc2 := 2) b_297_0_2 rfl rfl ?_
  refine ov_putf (x := 0) d_297_2 fl_Mo_1 (zb_90 I) (zs_90 I) rfl nk_0 rfl ?_
  have I1 := up_90_0 (x := 0) I (by omega)
  have J2 : ∀ (j3 : Int) (q4 : (j3 = 0 ∨ j3 = 1) ∧ (j3 = 1 → 0 ≤ x ∧ x ≤ 5 ∧ 0 ≤ y ∧ y ≤ 8 ∧ 2 ≤ m ∧ m ≤ 4 ∧ y + m ≤ 9 ∧ 0 ≤ w ∧ w ≤ m - 1)), ov_R u d ov_m297 52 [(0, ov_r 90), (1, ov_i x), (2, ov_i y), (3, ov_i m), (4, ov_i bo), (5, ov_i w), (6, ov_i j3)] [] z (ov_up h 90 0 0) (P_Mo_wave_90 F z h x y m bo w) := by
    intro j3 q4
    refine ov_blk (ls2 := [(0, ov_r 90), (1, ov_i x), (2, ov_i y), (3, ov_i m), (4, ov_i bo), (5, ov_i w), (6, ov_i j3), (7, ov_i 0)]) (st2 := []) (pc2 := 55) b_297_52_2 rfl rfl ?_
    have L8 : ∀ (n5 : Nat) (x6 : Int) (x7 : Int) (q7 : (x6 = 0 ∨ x6 = 1) ∧ 0 ≤ x7 ∧ x7 ≤ 4 ∧ (x6 = 1 → 0 ≤ x ∧ x ≤ 5 ∧ 0 ≤ y ∧ y ≤ 8 ∧ 2 ≤ m ∧ m ≤ 4 ∧ y + m ≤ 9 ∧ 0 ≤ w ∧ w ≤ m - 1 ∧ (1 ≤ x7 → ((h 96 (10 + 4 * (6 * y + x))) = 1 ∨ (h 96 (10 + 4 * (6 * y + x))) = 2)))), 4 - x7 < (n5 : Int) → ov_R u d ov_m297 55 [(0, ov_r 90), (1, ov_i x), (2, ov_i y), (3, ov_i m), (4, ov_i bo), (5, ov_i w), (6, ov_i x6), (7, ov_i x7)] [] z (ov_up h 90 0 0) (P_Mo_wave_90 F z h x y m bo w) := by
      intro n5
      induction n5 with
      | zero =>
        intro x6 x7 q7 hn9
        exact absurd hn9 (by omega)
      | succ n5 ih6 =>
        intro x6 x7 q7 hn9
        refine ov_blk (ls2 := [(0, ov_r 90), (1, ov_i x), (2, ov_i y), (3, ov_i m), (4, ov_i bo), (5, ov_i w), (6, ov_i x6), (7, ov_i x7)]) (st2 := [ov_i m, ov_i x7]) (pc2 := 58) b_297_55_2 rfl rfl ?_
        refine ov_icge (tgt := 111) d_297_58 (by decide) (by omega) (by omega) (fun c10 => ?_) (fun c10 => ?_)
        · skip
          refine ov_blk (ls2 := [(0, ov_r 90), (1, ov_i x), (2, ov_i y), (3, ov_i m), (4, ov_i bo), (5, ov_i w), (6, ov_i x6), (7, ov_i x7)]) (st2 := [ov_i x6]) (pc2 := 113) b_297_111_1 rfl rfl ?_
          refine ov_ifne (tgt := 118) d_297_113 (by decide) (by omega) (fun c11 => ?_) (fun c11 => ?_)
          · skip
            obtain ⟨_, qm1, qm2, qd⟩ := q7
            have qe := qd (by omega)
            have qt := qe.2.2.2.2.2.2.2.2.2 (by omega)
            have qg : 0 ≤ x ∧ x ≤ 5 ∧ 0 ≤ y ∧ y ≤ 8 ∧ 2 ≤ m ∧ m ≤ 4 ∧ y + m ≤ 9 ∧ 0 ≤ w ∧ w ≤ m - 1 := by omega
            have qh : 0 < h 96 (10 + 4 * (6 * y + x)) := by omega
            have w1 := ov_WT_at W (c := 6 * y + x) (by omega) qh
            clear qd qe qt
            refine ov_blk (ls2 := [(0, ov_r 90), (1, ov_i x), (2, ov_i y), (3, ov_i m), (4, ov_i bo), (5, ov_i w), (6, ov_i x6), (7, ov_i x7)]) (st2 := [ov_i 1, ov_i y, ov_i x, ov_r 90]) (pc2 := 122) b_297_118_4 rfl rfl ?_
            refine ov_cV (as := [ov_i x, ov_i y, ov_i 1]) (st := []) (d2 := d - 1) d_297_122 lk_Mo_289 rfl (Nat.le_of_ble_eq_true rfl) (c := 1) (zb_90 I1) (zs_90 I1) ⟨by decide, rfl⟩ (by omega) (c_Mo_lightAt_90 (d - 1) (by omega) U I1 x y 1 (by omega) (by omega) (by omega) (by omega) (by omega)) ?_
            rintro _ _ _ ⟨v13, rfl, rfl, rfl, f12⟩
            show ov_R u d ov_m297 125 [(0, ov_r 90), (1, ov_i x), (2, ov_i y), (3, ov_i m), (4, ov_i bo), (5, ov_i w), (6, ov_i x6), (7, ov_i x7)] [ov_i v13] z (ov_up h 90 0 0) (P_Mo_wave_90 F z h x y m bo w)
            have f14 : v13 = (h 96 (10 + 4 * (6 * y + x) + (1 : Int))) ∧ ((1 : Int) = 1 → 0 ≤ v13 ∧ v13 ≤ 60) ∧ ((1 : Int) = 2 → 0 ≤ v13 ∧ v13 ≤ 59) ∧ ((1 : Int) = 3 → 0 ≤ v13 ∧ v13 ≤ 60) := f12
            clear f12
            refine ov_blk (ls2 := [(0, ov_r 90), (1, ov_i x), (2, ov_i y), (3, ov_i m), (4, ov_i bo), (5, ov_i w), (6, ov_i x6), (7, ov_i v13), (8, ov_i 0)]) (st2 := []) (pc2 := 130) b_297_125_3 rfl rfl ?_
            have L18 : ∀ (n15 : Nat) (x8 : Int) (z19 : ov_Z) (h20 : ov_H) (I21 : ov_N F z19 h20) (E22 : h20 91 = h 91) (E23 : h20 92 = h 92) (E24 : h20 93 = h 93) (E25 : h20 94 = h 94) (E26 : h20 95 = h 95) (E27 : h20 96 = h 96) (E28 : h20 97 = h 97) (E29 : h20 98 = h 98) (E30 : h20 99 = h 99) (E31 : h20 100 = h 100) (E32 : h20 103 = h 103) (E33 : h20 104 = h 104) (E34 : h20 105 = h 105) (E35 : h20 106 = h 106) (E36 : h20 109 = h 109) (E37 : h20 114 = h 114) (q17 : 0 ≤ x8 ∧ x8 ≤ 4 ∧ (h20 90 2) = (h 90 2) ∧ (h20 90 7) = (h 90 7) ∧ (h20 90 8) = (h 90 8) ∧ (h20 90 13) = (h 90 13) ∧ (h20 90 20) = (h 90 20) ∧ (h20 90 22) = (h 90 22) ∧ (h20 90 25) = (h 90 25) ∧ (h20 90 26) = (h 90 26) ∧ (h20 90 28) = (h 90 28) ∧ (h20 90 29) = (h 90 29) ∧ (h20 90 30) = (h 90 30) ∧ (h20 90 34) = (h 90 34)), 4 - x8 < (n15 : Int) → ov_R u d ov_m297 130 [(0, ov_r 90), (1, ov_i x), (2, ov_i y), (3, ov_i m), (4, ov_i bo), (5, ov_i w), (6, ov_i x6), (7, ov_i v13), (8, ov_i x8)] [] z19 h20 (P_Mo_wave_90 F z h x y m bo w) := by
              intro n15
              induction n15 with
              | zero =>
                intro x8 z19 h20 I21 E22 E23 E24 E25 E26 E27 E28 E29 E30 E31 E32 E33 E34 E35 E36 E37 q17 hn38
                exact absurd hn38 (by omega)
              | succ n15 ih16 =>
                intro x8 z19 h20 I21 E22 E23 E24 E25 E26 E27 E28 E29 E30 E31 E32 E33 E34 E35 E36 E37 q17 hn38
                refine ov_blk (ls2 := [(0, ov_r 90), (1, ov_i x), (2, ov_i y), (3, ov_i m), (4, ov_i bo), (5, ov_i w), (6, ov_i x6), (7, ov_i v13), (8, ov_i x8)]) (st2 := [ov_i m, ov_i x8]) (pc2 := 133) b_297_130_2 rfl rfl ?_
                refine ov_icge (tgt := 241) d_297_133 (by decide) (by omega) (by omega) (fun c39 => ?_) (fun c39 => ?_)
                · skip
                  refine ov_blk (ls2 := [(0, ov_r 90), (1, ov_i x), (2, ov_i y), (3, ov_i m), (4, ov_i bo), (5, ov_i w), (6, ov_i x6), (7, ov_i v13), (8, ov_i x8)]) (st2 := [ov_i (-1), ov_r 90]) (pc2 := 243) b_297_241_2 rfl rfl ?_
                  refine ov_putf (x := (-1)) d_297_243 fl_Mo_439 (zb_90 I21) (zs_90 I21) rfl nk_0 rfl ?_
                  have I40 := up_90_42 (x := (-1)) I21 (by omega)
                  refine ov_blk (ls2 := [(0, ov_r 90), (1, ov_i x), (2, ov_i y), (3, ov_i m), (4, ov_i bo), (5, ov_i w), (6, ov_i x6), (7, ov_i v13), (8, ov_i x8)]) (st2 := [ov_i 2, ov_i y, ov_i x, ov_r 90]) (pc2 := 250) b_297_246_4 rfl rfl ?_
                  refine ov_cV (as := [ov_i x, ov_i y, ov_i 2]) (st := []) (d2 := d - 1) d_297_250 lk_Mo_289 rfl (Nat.le_of_ble_eq_true rfl) (c := 1) (zb_90 I40) (zs_90 I40) ⟨by decide, rfl⟩ (by omega) (c_Mo_lightAt_90 (d - 1) (by omega) U I40 x y 2 (by omega) (by omega) (by omega) (by omega) (by omega)) ?_
                  rintro _ _ _ ⟨v42, rfl, rfl, rfl, f41⟩
                  show ov_R u d ov_m297 253 [(0, ov_r 90), (1, ov_i x), (2, ov_i y), (3, ov_i m), (4, ov_i bo), (5, ov_i w), (6, ov_i x6), (7, ov_i v13), (8, ov_i x8)] [ov_i v42] z19 (ov_up h20 90 42 (-1)) (P_Mo_wave_90 F z h x y m bo w)
                  rw [show (ov_up h20 90 42 (-1)) 96 = h 96 from E27] at f41
                  have f43 : v42 = (h 96 (10 + 4 * (6 * y + x) + (2 : Int))) ∧ ((2 : Int) = 1 → 0 ≤ v42 ∧ v42 ≤ 60) ∧ ((2 : Int) = 2 → 0 ≤ v42 ∧ v42 ≤ 59) ∧ ((2 : Int) = 3 → 0 ≤ v42 ∧ v42 ≤ 60) := f41
                  clear f41
                  refine ov_blk (ls2 := [(0, ov_r 90), (1, ov_i x), (2, ov_i y), (3, ov_i m), (4, ov_i bo), (5, ov_i w), (6, ov_i x6), (7, ov_i v13), (8, ov_i x8)]) (st2 := [ov_i 3, ov_i y, ov_i x, ov_r 90, ov_i v42]) (pc2 := 257) b_297_253_4 rfl rfl ?_
                  refine ov_cV (as := [ov_i x, ov_i y, ov_i 3]) (st := [ov_i v42]) (d2 := d - 1) d_297_257 lk_Mo_289 rfl (Nat.le_of_ble_eq_true rfl) (c := 1) (zb_90 I40) (zs_90 I40) ⟨by decide, rfl⟩ (by omega) (c_Mo_lightAt_90 (d - 1) (by omega) U I40 x y 3 (by omega) (by omega) (by omega) (by omega) (by omega)) ?_
                  rintro _ _ _ ⟨v45, rfl, rfl, rfl, f44⟩
                  show ov_R u d ov_m297 260 [(0, ov_r 90), (1, ov_i x), (2, ov_i y), (3, ov_i m), (4, ov_i bo), (5, ov_i w), (6, ov_i x6), (7, ov_i v13), (8, ov_i x8)] [ov_i v45, ov_i v42] z19 (ov_up h20 90 42 (-1)) (P_Mo_wave_90 F z h x y m bo w)
                  rw [show (ov_up h20 90 42 (-1)) 96 = h 96 from E27] at f44
                  have f46 : v45 = (h 96 (10 + 4 * (6 * y + x) + (3 : Int))) ∧ ((3 : Int) = 1 → 0 ≤ v45 ∧ v45 ≤ 60) ∧ ((3 : Int) = 2 → 0 ≤ v45 ∧ v45 ≤ 59) ∧ ((3 : Int) = 3 → 0 ≤ v45 ∧ v45 ≤ 60) := f44
                  clear f44
                  refine ov_blk (ls2 := [(0, ov_r 90), (1, ov_i x), (2, ov_i y), (3, ov_i m), (4, ov_i bo), (5, ov_i w), (6, ov_i x6), (7, ov_i v13), (8, ov_i x8)]) (st2 := [ov_i v13, ov_i (v42 + v45)]) (pc2 := 263) b_297_260_2 rfl rfl ?_
                  have gt := ov_tmv (x := (v42 + v45)) (y := v13) (by omega) (by omega)
                  refine ov_irem d_297_263 (by omega) (by omega) (by omega) ?_
                  have g47 := ov_tmg (a := (v42 + v45)) (b := v13) (by omega) (by omega)
                  refine ov_blk (ls2 := [(0, ov_r 90), (1, ov_i x), (2, ov_i y), (3, ov_i m), (4, ov_i bo), (5, ov_i w), (6, ov_i x6), (7, ov_i v13), (8, ov_i (Int.tmod (v42 + v45) v13))]) (st2 := [ov_r 90]) (pc2 := 267) b_297_264_2 rfl rfl ?_
                  refine ov_getf (v := ov_r 112) d_297_267 fl_Mo_138 (zb_90 I40) (zs_90 I40) (congrArg ov_r (rg_90_40 I40)) ?_
                  refine ov_blk (ls2 := [(0, ov_r 90), (1, ov_i x), (2, ov_i y), (3, ov_i m), (4, ov_i bo), (5, ov_i w), (6, ov_i x6), (7, ov_i v13), (8, ov_i (Int.tmod (v42 + v45) v13))]) (st2 := [ov_i (Int.tmod (v42 + v45) v13), ov_i 0, ov_r 112]) (pc2 := 273) b_297_270_2 rfl rfl ?_
                  refine ov_iast d_297_273 (zb_112 I40) (zs_112 I40) (by omega) ?_
                  have I48 := ua_112 (k := 0) (x := (Int.tmod (v42 + v45) v13)) I40 (by omega)
                  refine ov_blk (ls2 := [(0, ov_r 90), (1, ov_i x), (2, ov_i y), (3, ov_i m), (4, ov_i bo), (5, ov_i w), (6, ov_i x6), (7, ov_i v13), (8, ov_i (Int.tmod (v42 + v45) v13))]) (st2 := [ov_r 90, ov_i v13, ov_i m, ov_i 1, ov_r 90]) (pc2 := 280) b_297_274_5 rfl rfl ?_
                  refine ov_getf (v := ov_r 110) d_297_280 fl_Mo_132 (zb_90 I48) (zs_90 I48) (congrArg ov_r (rg_90_38 I48)) ?_
                  refine ov_blk (ls2 := [(0, ov_r 90), (1, ov_i x), (2, ov_i y), (3, ov_i m), (4, ov_i bo), (5, ov_i w), (6, ov_i x6), (7, ov_i v13), (8, ov_i (Int.tmod (v42 + v45) v13))]) (st2 := [ov_i (Int.tmod (v42 + v45) v13), ov_r 110, ov_i v13, ov_i m, ov_i 1, ov_r 90]) (pc2 := 285) b_297_283_1 rfl rfl ?_
                  refine ov_lald d_297_285 (zb_110 I48) (zs_110 I48) (by omega) ?_
                  show ov_R u d ov_m297 286 [(0, ov_r 90), (1, ov_i x), (2, ov_i y), (3, ov_i m), (4, ov_i bo), (5, ov_i w), (6, ov_i x6), (7, ov_i v13), (8, ov_i (Int.tmod (v42 + v45) v13))] [ov_l (h20 110 (Int.tmod (v42 + v45) v13)), ov_i v13, ov_i m, ov_i 1, ov_r 90] z19 (ov_up (ov_up h20 90 42 (-1)) 112 0 (Int.tmod (v42 + v45) v13)) (P_Mo_wave_90 F z h x y m bo w)
                  refine ov_blk (ls2 := [(0, ov_r 90), (1, ov_i x), (2, ov_i y), (3, ov_i m), (4, ov_i bo), (5, ov_i w), (6, ov_i x6), (7, ov_i v13), (8, ov_i (Int.tmod (v42 + v45) v13))]) (st2 := [ov_r 90, ov_l (h20 110 (Int.tmod (v42 + v45) v13)), ov_i v13, ov_i m, ov_i 1, ov_r 90]) (pc2 := 287) b_297_286_1 rfl rfl ?_
                  refine ov_getf (v := ov_r 111) d_297_287 fl_Mo_135 (zb_90 I48) (zs_90 I48) (congrArg ov_r (rg_90_39 I48)) ?_
                  refine ov_blk (ls2 := [(0, ov_r 90), (1, ov_i x), (2, ov_i y), (3, ov_i m), (4, ov_i bo), (5, ov_i w), (6, ov_i x6), (7, ov_i v13), (8, ov_i (Int.tmod (v42 + v45) v13))]) (st2 := [ov_i (Int.tmod (v42 + v45) v13), ov_r 111, ov_l (h20 110 (Int.tmod (v42 + v45) v13)), ov_i v13, ov_i m, ov_i 1, ov_r 90]) (pc2 := 292) b_297_290_1 rfl rfl ?_
                  refine ov_lald d_297_292 (zb_111 I48) (zs_111 I48) (by omega) ?_
                  show ov_R u d ov_m297 293 [(0, ov_r 90), (1, ov_i x), (2, ov_i y), (3, ov_i m), (4, ov_i bo), (5, ov_i w), (6, ov_i x6), (7, ov_i v13), (8, ov_i (Int.tmod (v42 + v45) v13))] [ov_l (h20 111 (Int.tmod (v42 + v45) v13)), ov_l (h20 110 (Int.tmod (v42 + v45) v13)), ov_i v13, ov_i m, ov_i 1, ov_r 90] z19 (ov_up (ov_up h20 90 42 (-1)) 112 0 (Int.tmod (v42 + v45) v13)) (P_Mo_wave_90 F z h x y m bo w)
                  refine ov_blk (ls2 := [(0, ov_r 90), (1, ov_i x), (2, ov_i y), (3, ov_i m), (4, ov_i bo), (5, ov_i w), (6, ov_i x6), (7, ov_i v13), (8, ov_i (Int.tmod (v42 + v45) v13))]) (st2 := [ov_i bo, ov_l (h20 111 (Int.tmod (v42 + v45) v13)), ov_l (h20 110 (Int.tmod (v42 + v45) v13)), ov_i v13, ov_i m, ov_i 1, ov_r 90]) (pc2 := 295) b_297_293_1 rfl rfl ?_
                  refine ov_cV (as := [ov_i 1, ov_i m, ov_i v13, ov_l (h20 110 (Int.tmod (v42 + v45) v13)), ov_l (h20 111 (Int.tmod (v42 + v45) v13)), ov_i bo]) (st := []) (d2 := d - 1) d_297_295 lk_Mo_442 rfl (Nat.le_of_ble_eq_true rfl) (c := 1) (zb_90 I48) (zs_90 I48) ⟨by decide, rfl⟩ (by omega) (c_Mo_triesWave_90_all (Int.toNat ((m) - (1))) (d - 1) (by omega) U I48 1 m v13 (h20 110 (Int.tmod (v42 + v45) v13)) (h20 111 (Int.tmod (v42 + v45) v13)) bo (by omega) (by omega) (by omega) (by omega) (by omega) (by omega) (by omega)) ?_
                  rintro _ z66 h67 ⟨rfl, I68, f49, e50, e51, e52, e53, e54, e55, e56, e57, e58, e59, e60, e61, e62, e63, e64, e65⟩
                  have E69 : h67 91 = h 91 := Eq.trans e50 E22
                  have E70 : h67 92 = h 92 := Eq.trans e51 E23
                  have E71 : h67 93 = h 93 := Eq.trans e52 E24
                  have E72 : h67 94 = h 94 := Eq.trans e53 E25
                  have E73 : h67 95 = h 95 := Eq.trans e54 E26
                  have E74 : h67 96 = h 96 := Eq.trans e55 E27
                  have E75 : h67 97 = h 97 := Eq.trans e56 E28
                  have E76 : h67 98 = h 98 := Eq.trans e57 E29
                  have E77 : h67 99 = h 99 := Eq.trans e58 E30
                  have E78 : h67 100 = h 100 := Eq.trans e59 E31
                  have E79 : h67 103 = h 103 := Eq.trans e60 E32
                  have E80 : h67 104 = h 104 := Eq.trans e61 E33
                  have E81 : h67 105 = h 105 := Eq.trans e62 E34
                  have E82 : h67 106 = h 106 := Eq.trans e63 E35
                  have E83 : h67 109 = h 109 := Eq.trans e64 E36
                  have E84 : h67 114 = h 114 := Eq.trans e65 E37
                  show ov_R u d ov_m297 298 [(0, ov_r 90), (1, ov_i x), (2, ov_i y), (3, ov_i m), (4, ov_i bo), (5, ov_i w), (6, ov_i x6), (7, ov_i v13), (8, ov_i (Int.tmod (v42 + v45) v13))] [] z66 h67 (P_Mo_wave_90 F z h x y m bo w)
                  have f85 : (h67 90 2) = (h20 90 2) ∧ (h67 90 7) = (h20 90 7) ∧ (h67 90 8) = (h20 90 8) ∧ (h67 90 13) = (h20 90 13) ∧ (h67 90 20) = (h20 90 20) ∧ (h67 90 22) = (h20 90 22) ∧ (h67 90 25) = (h20 90 25) ∧ (h67 90 26) = (h20 90 26) ∧ (h67 90 28) = (h20 90 28) ∧ (h67 90 29) = (h20 90 29) ∧ (h67 90 30) = (h20 90 30) ∧ (h67 90 34) = (h20 90 34) := f49
                  clear f49
                  refine ov_blk (ls2 := [(0, ov_r 90), (1, ov_i x), (2, ov_i y), (3, ov_i m), (4, ov_i bo), (5, ov_i w), (6, ov_i x6), (7, ov_i v13), (8, ov_i (Int.tmod (v42 + v45) v13))]) (st2 := [ov_i w]) (pc2 := 300) b_297_298_1 rfl rfl ?_
                  refine ov_ifne (tgt := 310) d_297_300 (by decide) (by omega) (fun c86 => ?_) (fun c86 => ?_)
                  · skip
                    refine ov_blk (ls2 := [(0, ov_r 90), (1, ov_i x), (2, ov_i y), (3, ov_i m), (4, ov_i bo), (5, ov_i w), (6, ov_i x6), (7, ov_i v13), (8, ov_i (Int.tmod (v42 + v45) v13))]) (st2 := [ov_r 90]) (pc2 := 311) b_297_310_1 rfl rfl ?_
                    refine ov_getf (v := ov_r 113) d_297_311 fl_Mo_141 (zb_90 I68) (zs_90 I68) (congrArg ov_r (rg_90_41 I68)) ?_
                    refine ov_blk (ls2 := [(0, ov_r 90), (1, ov_i x), (2, ov_i y), (3, ov_i m), (4, ov_i bo), (5, ov_i w), (6, ov_i x6), (7, ov_i v13), (8, ov_i (Int.tmod (v42 + v45) v13))]) (st2 := [ov_i w, ov_r 113]) (pc2 := 316) b_297_314_1 rfl rfl ?_
                    refine ov_iald d_297_316 (zb_113 I68) (zs_113 I68) (by omega) ?_
                    have g87 := ra_113 I68 w
                    exact ov_reti (st := []) d_297_317 rfl ⟨_, rfl, I68, (by show (h67 90 2) = (h 90 2) ∧ (h67 90 7) = (h 90 7) ∧ (h67 90 8) = (h 90 8) ∧ (h67 90 13) = (h 90 13) ∧ (h67 90 20) = (h 90 20) ∧ (h67 90 22) = (h 90 22) ∧ (h67 90 25) = (h 90 25) ∧ (h67 90 26) = (h 90 26) ∧ (h67 90 28) = (h 90 28) ∧ (h67 90 29) = (h 90 29) ∧ (h67 90 30) = (h 90 30) ∧ (h67 90 34) = (h 90 34) ∧ -2147483648 ≤ (h67 113 w) ∧ (h67 113 w) ≤ 2147483647; omega), E69, E70, E71, E72, E73, E74, E75, E76, E77, E78, E79, E80, E81, E82, E83, E84⟩
                  · skip
                    refine ov_blk (ls2 := [(0, ov_r 90), (1, ov_i x), (2, ov_i y), (3, ov_i m), (4, ov_i bo), (5, ov_i w), (6, ov_i x6), (7, ov_i v13), (8, ov_i (Int.tmod (v42 + v45) v13))]) (st2 := [ov_r 90]) (pc2 := 304) b_297_303_1 rfl rfl ?_
                    refine ov_getf (v := ov_i (h67 90 42)) d_297_304 fl_Mo_439 (zb_90 I68) (zs_90 I68) rfl ?_
                    have g88 := rg_90_42 I68
                    refine ov_goto (tgt := 317) d_297_307 (by decide) ?_
                    exact ov_reti (st := []) d_297_317 rfl ⟨_, rfl, I68, (by show (h67 90 2) = (h 90 2) ∧ (h67 90 7) = (h 90 7) ∧ (h67 90 8) = (h 90 8) ∧ (h67 90 13) = (h 90 13) ∧ (h67 90 20) = (h 90 20) ∧ (h67 90 22) = (h 90 22) ∧ (h67 90 25) = (h 90 25) ∧ (h67 90 26) = (h 90 26) ∧ (h67 90 28) = (h 90 28) ∧ (h67 90 29) = (h 90 29) ∧ (h67 90 30) = (h 90 30) ∧ (h67 90 34) = (h 90 34) ∧ -2147483648 ≤ (h67 90 42) ∧ (h67 90 42) ≤ 2147483647; omega), E69, E70, E71, E72, E73, E74, E75, E76, E77, E78, E79, E80, E81, E82, E83, E84⟩
                · skip
                  refine ov_blk (ls2 := [(0, ov_r 90), (1, ov_i x), (2, ov_i y), (3, ov_i m), (4, ov_i bo), (5, ov_i w), (6, ov_i x6), (7, ov_i v13), (8, ov_i x8)]) (st2 := [ov_i 3, ov_i (y + x8), ov_i x, ov_r 90, ov_i v13]) (pc2 := 145) b_297_136_7 rfl rfl ?_
                  refine ov_cV (as := [ov_i x, ov_i (y + x8), ov_i 3]) (st := [ov_i v13]) (d2 := d - 1) d_297_145 lk_Mo_289 rfl (Nat.le_of_ble_eq_true rfl) (c := 1) (zb_90 I21) (zs_90 I21) ⟨by decide, rfl⟩ (by omega) (c_Mo_lightAt_90 (d - 1) (by omega) U I21 x (y + x8) 3 (by omega) (by omega) (by omega) (by omega) (by omega)) ?_
                  rintro _ _ _ ⟨v90, rfl, rfl, rfl, f89⟩
                  show ov_R u d ov_m297 148 [(0, ov_r 90), (1, ov_i x), (2, ov_i y), (3, ov_i m), (4, ov_i bo), (5, ov_i w), (6, ov_i x6), (7, ov_i v13), (8, ov_i x8)] [ov_i v90, ov_i v13] z19 h20 (P_Mo_wave_90 F z h x y m bo w)
                  rw [show h20 96 = h 96 from E27] at f89
                  have f91 : v90 = (h 96 (10 + 4 * (6 * (y + x8) + x) + (3 : Int))) ∧ ((3 : Int) = 1 → 0 ≤ v90 ∧ v90 ≤ 60) ∧ ((3 : Int) = 2 → 0 ≤ v90 ∧ v90 ≤ 59) ∧ ((3 : Int) = 3 → 0 ≤ v90 ∧ v90 ≤ 60) := f89
                  clear f89
                  refine ov_blk (ls2 := [(0, ov_r 90), (1, ov_i x), (2, ov_i y), (3, ov_i m), (4, ov_i bo), (5, ov_i w), (6, ov_i x6), (7, ov_i v13), (8, ov_i x8), (9, ov_i (v13 - v90)), (10, ov_i 0)]) (st2 := []) (pc2 := 154) b_297_148_4 rfl rfl ?_
                  have L95 : ∀ (n92 : Nat) (x10 : Int) (z96 : ov_Z) (h97 : ov_H) (I98 : ov_N F z96 h97) (E99 : h97 91 = h 91) (E100 : h97 92 = h 92) (E101 : h97 93 = h 93) (E102 : h97 94 = h 94) (E103 : h97 95 = h 95) (E104 : h97 96 = h 96) (E105 : h97 97 = h 97) (E106 : h97 98 = h 98) (E107 : h97 99 = h 99) (E108 : h97 100 = h 100) (E109 : h97 103 = h 103) (E110 : h97 104 = h 104) (E111 : h97 105 = h 105) (E112 : h97 106 = h 106) (E113 : h97 109 = h 109) (E114 : h97 114 = h 114) (q94 : 0 ≤ x10 ∧ x10 ≤ 60 ∧ (h97 90 2) = (h20 90 2) ∧ (h97 90 7) = (h20 90 7) ∧ (h97 90 8) = (h20 90 8) ∧ (h97 90 13) = (h20 90 13) ∧ (h97 90 20) = (h20 90 20) ∧ (h97 90 22) = (h20 90 22) ∧ (h97 90 25) = (h20 90 25) ∧ (h97 90 26) = (h20 90 26) ∧ (h97 90 28) = (h20 90 28) ∧ (h97 90 29) = (h20 90 29) ∧ (h97 90 30) = (h20 90 30) ∧ (h97 90 34) = (h20 90 34)), 60 - x10 < (n92 : Int) → ov_R u d ov_m297 154 [(0, ov_r 90), (1, ov_i x), (2, ov_i y), (3, ov_i m), (4, ov_i bo), (5, ov_i w), (6, ov_i x6), (7, ov_i v13), (8, ov_i x8), (9, ov_i (v13 - v90)), (10, ov_i x10)] [] z96 h97 (P_Mo_wave_90 F z h x y m bo w) := by
                    intro n92
                    induction n92 with
                    | zero =>
                      intro x10 z96 h97 I98 E99 E100 E101 E102 E103 E104 E105 E106 E107 E108 E109 E110 E111 E112 E113 E114 q94 hn115
                      exact absurd hn115 (by omega)
                    | succ n92 ih93 =>
                      intro x10 z96 h97 I98 E99 E100 E101 E102 E103 E104 E105 E106 E107 E108 E109 E110 E111 E112 E113 E114 q94 hn115
                      refine ov_blk (ls2 := [(0, ov_r 90), (1, ov_i x), (2, ov_i y), (3, ov_i m), (4, ov_i bo), (5, ov_i w), (6, ov_i x6), (7, ov_i v13), (8, ov_i x8), (9, ov_i (v13 - v90)), (10, ov_i x10)]) (st2 := [ov_i v13, ov_i x10]) (pc2 := 158) b_297_154_2 rfl rfl ?_
                      refine ov_icge (tgt := 235) d_297_158 (by decide) (by omega) (by omega) (fun c116 => ?_) (fun c116 => ?_)
                      · skip
                        refine ov_blk (ls2 := [(0, ov_r 90), (1, ov_i x), (2, ov_i y), (3, ov_i m), (4, ov_i bo), (5, ov_i w), (6, ov_i x6), (7, ov_i v13), (8, ov_i (x8 + 1)), (9, ov_i (v13 - v90)), (10, ov_i x10)]) (st2 := []) (pc2 := 238) b_297_235_1 rfl rfl ?_
                        refine ov_goto (tgt := 130) d_297_238 (by decide) ?_
                        refine ov_sub (ls2 := [(0, ov_r 90), (1, ov_i x), (2, ov_i y), (3, ov_i m), (4, ov_i bo), (5, ov_i w), (6, ov_i x6), (7, ov_i v13), (8, ov_i (x8 + 1))]) (List.Sublist.subset (by repeat (first | exact List.Sublist.refl _ | apply List.Sublist.cons_cons | apply List.Sublist.cons))) ?_
                        exact ih16 (x8 + 1) _ _ I98 E99 E100 E101 E102 E103 E104 E105 E106 E107 E108 E109 E110 E111 E112 E113 E114 (by show 0 ≤ (x8 + 1) ∧ (x8 + 1) ≤ 4 ∧ (h97 90 2) = (h 90 2) ∧ (h97 90 7) = (h 90 7) ∧ (h97 90 8) = (h 90 8) ∧ (h97 90 13) = (h 90 13) ∧ (h97 90 20) = (h 90 20) ∧ (h97 90 22) = (h 90 22) ∧ (h97 90 25) = (h 90 25) ∧ (h97 90 26) = (h 90 26) ∧ (h97 90 28) = (h 90 28) ∧ (h97 90 29) = (h 90 29) ∧ (h97 90 30) = (h 90 30) ∧ (h97 90 34) = (h 90 34); omega) (by omega)
                      · skip
                        refine ov_blk (ls2 := [(0, ov_r 90), (1, ov_i x), (2, ov_i y), (3, ov_i m), (4, ov_i bo), (5, ov_i w), (6, ov_i x6), (7, ov_i v13), (8, ov_i x8), (9, ov_i (v13 - v90)), (10, ov_i x10)]) (st2 := [ov_r 90]) (pc2 := 162) b_297_161_1 rfl rfl ?_
                        refine ov_getf (v := ov_r 110) d_297_162 fl_Mo_132 (zb_90 I98) (zs_90 I98) (congrArg ov_r (rg_90_38 I98)) ?_
                        refine ov_blk (ls2 := [(0, ov_r 90), (1, ov_i x), (2, ov_i y), (3, ov_i m), (4, ov_i bo), (5, ov_i w), (6, ov_i x6), (7, ov_i v13), (8, ov_i x8), (9, ov_i (v13 - v90)), (10, ov_i x10)]) (st2 := [ov_r 90, ov_i x8, ov_i x10, ov_i ((60 * x8) + x10), ov_r 110]) (pc2 := 178) b_297_165_8 rfl rfl ?_
                        refine ov_getf (v := ov_r 96) d_297_178 fl_Mo_81 (zb_90 I98) (zs_90 I98) (congrArg ov_r (rg_90_10 I98)) ?_
                        refine ov_blk (ls2 := [(0, ov_r 90), (1, ov_i x), (2, ov_i y), (3, ov_i m), (4, ov_i bo), (5, ov_i w), (6, ov_i x6), (7, ov_i v13), (8, ov_i x8), (9, ov_i (v13 - v90)), (10, ov_i x10)]) (st2 := [ov_i 2, ov_r 96, ov_i x8, ov_i x10, ov_i ((60 * x8) + x10), ov_r 110]) (pc2 := 182) b_297_181_1 rfl rfl ?_
                        refine ov_iald d_297_182 (zb_96 I98) (zs_96 I98) (by omega) ?_
                        rw [show h97 96 = h 96 from E104]
                        have g117 := t96_2 I
                        have gm118 := ov_mulb (q := x8) (b := (h 96 2)) (A := 4) (B := 30) (by omega) (by omega) (by omega) (by omega)
                        refine ov_blk (ls2 := [(0, ov_r 90), (1, ov_i x), (2, ov_i y), (3, ov_i m), (4, ov_i bo), (5, ov_i w), (6, ov_i x6), (7, ov_i v13), (8, ov_i x8), (9, ov_i (v13 - v90)), (10, ov_i x10)]) (st2 := [ov_i v13, ov_i (v13 - v90), ov_i (x10 - (x8 * (h 96 2))), ov_i ((60 * x8) + x10), ov_r 110]) (pc2 := 189) b_297_183_4 rfl rfl ?_
                        refine ov_cS (as := [ov_i (x10 - (x8 * (h 96 2))), ov_i (v13 - v90), ov_i v13]) (st := [ov_i ((60 * x8) + x10), ov_r 110]) (d2 := d - 1) d_297_189 lk_Mo_446 rfl (Nat.le_of_ble_eq_true rfl) (by omega) (c_Mo_turned (d - 1) (by omega) U I98 (x10 - (x8 * (h 96 2))) (v13 - v90) v13 (by omega) (by omega) (by omega) (by omega) (by omega)) ?_
                        rintro _ _ _ ⟨v120, rfl, rfl, rfl, f119⟩
                        show ov_R u d ov_m297 192 [(0, ov_r 90), (1, ov_i x), (2, ov_i y), (3, ov_i m), (4, ov_i bo), (5, ov_i w), (6, ov_i x6), (7, ov_i v13), (8, ov_i x8), (9, ov_i (v13 - v90)), (10, ov_i x10)] [ov_l v120, ov_i ((60 * x8) + x10), ov_r 110] z96 h97 (P_Mo_wave_90 F z h x y m bo w)
                        clear f119
                        refine ov_last d_297_192 (zb_110 I98) (zs_110 I98) (by omega) ?_
                        have I121 := ua_110 (k := ((60 * x8) + x10)) (x := v120) I98
                        refine ov_blk (ls2 := [(0, ov_r 90), (1, ov_i x), (2, ov_i y), (3, ov_i m), (4, ov_i bo), (5, ov_i w), (6, ov_i x6), (7, ov_i v13), (8, ov_i x8), (9, ov_i (v13 - v90)), (10, ov_i x10)]) (st2 := [ov_r 90]) (pc2 := 194) b_297_193_1 rfl rfl ?_
                        refine ov_getf (v := ov_r 111) d_297_194 fl_Mo_135 (zb_90 I121) (zs_90 I121) (congrArg ov_r (rg_90_39 I121)) ?_
                        refine ov_blk (ls2 := [(0, ov_r 90), (1, ov_i x), (2, ov_i y), (3, ov_i m), (4, ov_i bo), (5, ov_i w), (6, ov_i x6), (7, ov_i v13), (8, ov_i x8), (9, ov_i (v13 - v90)), (10, ov_i x10)]) (st2 := [ov_r 90, ov_i ((m - 1) - x8), ov_i x10, ov_i ((60 * x8) + x10), ov_r 111]) (pc2 := 214) b_297_197_12 rfl rfl ?_
                        refine ov_getf (v := ov_r 96) d_297_214 fl_Mo_81 (zb_90 I121) (zs_90 I121) (congrArg ov_r (rg_90_10 I121)) ?_
                        refine ov_blk (ls2 := [(0, ov_r 90), (1, ov_i x), (2, ov_i y), (3, ov_i m), (4, ov_i bo), (5, ov_i w), (6, ov_i x6), (7, ov_i v13), (8, ov_i x8), (9, ov_i (v13 - v90)), (10, ov_i x10)]) (st2 := [ov_i 2, ov_r 96, ov_i ((m - 1) - x8), ov_i x10, ov_i ((60 * x8) + x10), ov_r 111]) (pc2 := 218) b_297_217_1 rfl rfl ?_
                        refine ov_iald d_297_218 (zb_96 I121) (zs_96 I121) (by omega) ?_
                        show ov_R u d ov_m297 219 [(0, ov_r 90), (1, ov_i x), (2, ov_i y), (3, ov_i m), (4, ov_i bo), (5, ov_i w), (6, ov_i x6), (7, ov_i v13), (8, ov_i x8), (9, ov_i (v13 - v90)), (10, ov_i x10)] [ov_i ((ov_up h97 110 ((60 * x8) + x10) v120) 96 2), ov_i ((m - 1) - x8), ov_i x10, ov_i ((60 * x8) + x10), ov_r 111] z96 (ov_up h97 110 ((60 * x8) + x10) v120) (P_Mo_wave_90 F z h x y m bo w)
                        rw [show (ov_up h97 110 ((60 * x8) + x10) v120) 96 = h 96 from E104]
                        have gm123 := ov_mulb (q := ((m - 1) - x8)) (b := (h 96 2)) (A := 4) (B := 30) (by omega) (by omega) (by omega) (by omega)
                        refine ov_blk (ls2 := [(0, ov_r 90), (1, ov_i x), (2, ov_i y), (3, ov_i m), (4, ov_i bo), (5, ov_i w), (6, ov_i x6), (7, ov_i v13), (8, ov_i x8), (9, ov_i (v13 - v90)), (10, ov_i x10)]) (st2 := [ov_i v13, ov_i (v13 - v90), ov_i (x10 - (((m - 1) - x8) * (h 96 2))), ov_i ((60 * x8) + x10), ov_r 111]) (pc2 := 225) b_297_219_4 rfl rfl ?_
                        refine ov_cS (as := [ov_i (x10 - (((m - 1) - x8) * (h 96 2))), ov_i (v13 - v90), ov_i v13]) (st := [ov_i ((60 * x8) + x10), ov_r 111]) (d2 := d - 1) d_297_225 lk_Mo_446 rfl (Nat.le_of_ble_eq_true rfl) (by omega) (c_Mo_turned (d - 1) (by omega) U I121 (x10 - (((m - 1) - x8) * (h 96 2))) (v13 - v90) v13 (by omega) (by omega) (by omega) (by omega) (by omega)) ?_
                        rintro _ _ _ ⟨v125, rfl, rfl, rfl, f124⟩
                        show ov_R u d ov_m297 228 [(0, ov_r 90), (1, ov_i x), (2, ov_i y), (3, ov_i m), (4, ov_i bo), (5, ov_i w), (6, ov_i x6), (7, ov_i v13), (8, ov_i x8), (9, ov_i (v13 - v90)), (10, ov_i x10)] [ov_l v125, ov_i ((60 * x8) + x10), ov_r 111] z96 (ov_up h97 110 ((60 * x8) + x10) v120) (P_Mo_wave_90 F z h x y m bo w)
                        clear f124
                        refine ov_last d_297_228 (zb_111 I121) (zs_111 I121) (by omega) ?_
                        have I126 := ua_111 (k := ((60 * x8) + x10)) (x := v125) I121
                        refine ov_blk (ls2 := [(0, ov_r 90), (1, ov_i x), (2, ov_i y), (3, ov_i m), (4, ov_i bo), (5, ov_i w), (6, ov_i x6), (7, ov_i v13), (8, ov_i x8), (9, ov_i (v13 - v90)), (10, ov_i (x10 + 1))]) (st2 := []) (pc2 := 232) b_297_229_1 rfl rfl ?_
                        refine ov_goto (tgt := 154) d_297_232 (by decide) ?_
                        exact ih93 (x10 + 1) _ _ I126 E99 E100 E101 E102 E103 E104 E105 E106 E107 E108 E109 E110 E111 E112 E113 E114 (by show 0 ≤ (x10 + 1) ∧ (x10 + 1) ≤ 60 ∧ (h97 90 2) = (h20 90 2) ∧ (h97 90 7) = (h20 90 7) ∧ (h97 90 8) = (h20 90 8) ∧ (h97 90 13) = (h20 90 13) ∧ (h97 90 20) = (h20 90 20) ∧ (h97 90 22) = (h20 90 22) ∧ (h97 90 25) = (h20 90 25) ∧ (h97 90 26) = (h20 90 26) ∧ (h97 90 28) = (h20 90 28) ∧ (h97 90 29) = (h20 90 29) ∧ (h97 90 30) = (h20 90 30) ∧ (h97 90 34) = (h20 90 34); omega) (by omega)
                  exact L95 61 0 _ _ I21 E22 E23 E24 E25 E26 E27 E28 E29 E30 E31 E32 E33 E34 E35 E36 E37 (by show 0 ≤ 0 ∧ 0 ≤ 60 ∧ (h20 90 2) = (h20 90 2) ∧ (h20 90 7) = (h20 90 7) ∧ (h20 90 8) = (h20 90 8) ∧ (h20 90 13) = (h20 90 13) ∧ (h20 90 20) = (h20 90 20) ∧ (h20 90 22) = (h20 90 22) ∧ (h20 90 25) = (h20 90 25) ∧ (h20 90 26) = (h20 90 26) ∧ (h20 90 28) = (h20 90 28) ∧ (h20 90 29) = (h20 90 29) ∧ (h20 90 30) = (h20 90 30) ∧ (h20 90 34) = (h20 90 34); omega) (by omega)
            exact L18 5 0 _ _ I1 rfl rfl rfl rfl rfl rfl rfl rfl rfl rfl rfl rfl rfl rfl rfl rfl (by show 0 ≤ 0 ∧ 0 ≤ 4 ∧ (h 90 2) = (h 90 2) ∧ (h 90 7) = (h 90 7) ∧ (h 90 8) = (h 90 8) ∧ (h 90 13) = (h 90 13) ∧ (h 90 20) = (h 90 20) ∧ (h 90 22) = (h 90 22) ∧ (h 90 25) = (h 90 25) ∧ (h 90 26) = (h 90 26) ∧ (h 90 28) = (h 90 28) ∧ (h 90 29) = (h 90 29) ∧ (h 90 30) = (h 90 30) ∧ (h 90 34) = (h 90 34); omega) (by omega)
          · skip
            refine ov_blk (ls2 := [(0, ov_r 90), (1, ov_i x), (2, ov_i y), (3, ov_i m), (4, ov_i bo), (5, ov_i w), (6, ov_i x6), (7, ov_i x7)]) (st2 := [ov_i (-1)]) (pc2 := 117) b_297_116_1 rfl rfl ?_
            exact ov_reti (st := []) d_297_117 rfl ⟨_, rfl, I1, ⟨rfl, rfl, rfl, rfl, rfl, rfl, rfl, rfl, rfl, rfl, rfl, rfl, (by show -2147483648 ≤ (-1) ∧ (-1) ≤ 2147483647; omega)⟩, rfl, rfl, rfl, rfl, rfl, rfl, rfl, rfl, rfl, rfl, rfl, rfl, rfl, rfl, rfl, rfl⟩
        · skip
          refine ov_blk (ls2 := [(0, ov_r 90), (1, ov_i x), (2, ov_i y), (3, ov_i m), (4, ov_i bo), (5, ov_i w), (6, ov_i x6), (7, ov_i x7)]) (st2 := [ov_i x6]) (pc2 := 63) b_297_61_1 rfl rfl ?_
          refine ov_ifeq (tgt := 111) d_297_63 (by decide) (by omega) (fun c127 => ?_) (fun c127 => ?_)
          · skip
            refine ov_blk (ls2 := [(0, ov_r 90), (1, ov_i x), (2, ov_i y), (3, ov_i m), (4, ov_i bo), (5, ov_i w), (6, ov_i x6), (7, ov_i x7)]) (st2 := [ov_i x6]) (pc2 := 113) b_297_111_1 rfl rfl ?_
            refine ov_ifne (tgt := 118) d_297_113 (by decide) (by omega) (fun c128 => ?_) (fun c128 => ?_)
            · omega
            · skip
              refine ov_blk (ls2 := [(0, ov_r 90), (1, ov_i x), (2, ov_i y), (3, ov_i m), (4, ov_i bo), (5, ov_i w), (6, ov_i x6), (7, ov_i x7)]) (st2 := [ov_i (-1)]) (pc2 := 117) b_297_116_1 rfl rfl ?_
              exact ov_reti (st := []) d_297_117 rfl ⟨_, rfl, I1, ⟨rfl, rfl, rfl, rfl, rfl, rfl, rfl, rfl, rfl, rfl, rfl, rfl, (by show -2147483648 ≤ (-1) ∧ (-1) ≤ 2147483647; omega)⟩, rfl, rfl, rfl, rfl, rfl, rfl, rfl, rfl, rfl, rfl, rfl, rfl, rfl, rfl, rfl, rfl⟩
          · skip
            refine ov_blk (ls2 := [(0, ov_r 90), (1, ov_i x), (2, ov_i y), (3, ov_i m), (4, ov_i bo), (5, ov_i w), (6, ov_i x6), (7, ov_i x7)]) (st2 := [ov_i (y + x7), ov_i x, ov_r 90]) (pc2 := 72) b_297_66_5 rfl rfl ?_
            refine ov_cV (as := [ov_i x, ov_i (y + x7)]) (st := []) (d2 := d - 1) d_297_72 lk_Mo_285 rfl (Nat.le_of_ble_eq_true rfl) (c := 1) (zb_90 I1) (zs_90 I1) ⟨by decide, rfl⟩ (by omega) (c_Mo_isTimed_90 (d - 1) (by omega) U I1 x (y + x7) (by omega) (by omega) (by omega)) ?_
            rintro _ _ _ ⟨v130, rfl, rfl, rfl, f129⟩
            show ov_R u d ov_m297 75 [(0, ov_r 90), (1, ov_i x), (2, ov_i y), (3, ov_i m), (4, ov_i bo), (5, ov_i w), (6, ov_i x6), (7, ov_i x7)] [ov_i v130] z (ov_up h 90 0 0) (P_Mo_wave_90 F z h x y m bo w)
            have f131 : (v130 = 0 ∨ v130 = 1) ∧ (v130 = 1 → ((h 96 (10 + 4 * (6 * (y + x7) + x))) = 1 ∨ (h 96 (10 + 4 * (6 * (y + x7) + x))) = 2)) ∧ (v130 = 0 → ¬ ((h 96 (10 + 4 * (6 * (y + x7) + x))) = 1 ∨ (h 96 (10 + 4 * (6 * (y + x7) + x))) = 2)) := f129
            clear f129
            refine ov_ifeq (tgt := 102) d_297_75 (by decide) (by omega) (fun c132 => ?_) (fun c132 => ?_)
            · skip
              have f131_ : v130 = 0 := by omega
              have f133 : ¬ ((h 96 (10 + 4 * (6 * (y + x7) + x))) = 1 ∨ (h 96 (10 + 4 * (6 * (y + x7) + x))) = 2) := f131.2.2 (by omega)
              clear f131
              refine ov_blk (ls2 := [(0, ov_r 90), (1, ov_i x), (2, ov_i y), (3, ov_i m), (4, ov_i bo), (5, ov_i w), (6, ov_i 0), (7, ov_i (x7 + 1))]) (st2 := []) (pc2 := 108) b_297_102_3 rfl rfl ?_
              refine ov_goto (tgt := 55) d_297_108 (by decide) ?_
              exact ih6 0 (x7 + 1) (by show (0 = 0 ∨ 0 = 1) ∧ 0 ≤ (x7 + 1) ∧ (x7 + 1) ≤ 4 ∧ (0 = 1 → 0 ≤ x ∧ x ≤ 5 ∧ 0 ≤ y ∧ y ≤ 8 ∧ 2 ≤ m ∧ m ≤ 4 ∧ y + m ≤ 9 ∧ 0 ≤ w ∧ w ≤ m - 1 ∧ (1 ≤ (x7 + 1) → ((h 96 (10 + 4 * (6 * y + x))) = 1 ∨ (h 96 (10 + 4 * (6 * y + x))) = 2))); omega) (by omega)
            · skip
              have f131_ : v130 = 1 := by omega
              have f134 : ((h 96 (10 + 4 * (6 * (y + x7) + x))) = 1 ∨ (h 96 (10 + 4 * (6 * (y + x7) + x))) = 2) := f131.2.1 (by omega)
              clear f131
              have cg : x7 = 0 → h 96 (10 + 4 * (6 * (y + x7) + x)) = h 96 (10 + 4 * (6 * y + x)) := fun e => by rw [e, Int.add_zero]
              refine ov_blk (ls2 := [(0, ov_r 90), (1, ov_i x), (2, ov_i y), (3, ov_i m), (4, ov_i bo), (5, ov_i w), (6, ov_i x6), (7, ov_i x7)]) (st2 := [ov_i 1, ov_i (y + x7), ov_i x, ov_r 90]) (pc2 := 85) b_297_78_6 rfl rfl ?_
              refine ov_cV (as := [ov_i x, ov_i (y + x7), ov_i 1]) (st := []) (d2 := d - 1) d_297_85 lk_Mo_289 rfl (Nat.le_of_ble_eq_true rfl) (c := 1) (zb_90 I1) (zs_90 I1) ⟨by decide, rfl⟩ (by omega) (c_Mo_lightAt_90 (d - 1) (by omega) U I1 x (y + x7) 1 (by omega) (by omega) (by omega) (by omega) (by omega)) ?_
              rintro _ _ _ ⟨v136, rfl, rfl, rfl, f135⟩
              show ov_R u d ov_m297 88 [(0, ov_r 90), (1, ov_i x), (2, ov_i y), (3, ov_i m), (4, ov_i bo), (5, ov_i w), (6, ov_i x6), (7, ov_i x7)] [ov_i v136] z (ov_up h 90 0 0) (P_Mo_wave_90 F z h x y m bo w)
              have f137 : v136 = (h 96 (10 + 4 * (6 * (y + x7) + x) + (1 : Int))) ∧ ((1 : Int) = 1 → 0 ≤ v136 ∧ v136 ≤ 60) ∧ ((1 : Int) = 2 → 0 ≤ v136 ∧ v136 ≤ 59) ∧ ((1 : Int) = 3 → 0 ≤ v136 ∧ v136 ≤ 60) := f135
              clear f135
              refine ov_blk (ls2 := [(0, ov_r 90), (1, ov_i x), (2, ov_i y), (3, ov_i m), (4, ov_i bo), (5, ov_i w), (6, ov_i x6), (7, ov_i x7)]) (st2 := [ov_i 1, ov_i y, ov_i x, ov_r 90, ov_i v136]) (pc2 := 92) b_297_88_4 rfl rfl ?_
              refine ov_cV (as := [ov_i x, ov_i y, ov_i 1]) (st := [ov_i v136]) (d2 := d - 1) d_297_92 lk_Mo_289 rfl (Nat.le_of_ble_eq_true rfl) (c := 1) (zb_90 I1) (zs_90 I1) ⟨by decide, rfl⟩ (by omega) (c_Mo_lightAt_90 (d - 1) (by omega) U I1 x y 1 (by omega) (by omega) (by omega) (by omega) (by omega)) ?_
              rintro _ _ _ ⟨v139, rfl, rfl, rfl, f138⟩
              show ov_R u d ov_m297 95 [(0, ov_r 90), (1, ov_i x), (2, ov_i y), (3, ov_i m), (4, ov_i bo), (5, ov_i w), (6, ov_i x6), (7, ov_i x7)] [ov_i v139, ov_i v136] z (ov_up h 90 0 0) (P_Mo_wave_90 F z h x y m bo w)
              have f140 : v139 = (h 96 (10 + 4 * (6 * y + x) + (1 : Int))) ∧ ((1 : Int) = 1 → 0 ≤ v139 ∧ v139 ≤ 60) ∧ ((1 : Int) = 2 → 0 ≤ v139 ∧ v139 ≤ 59) ∧ ((1 : Int) = 3 → 0 ≤ v139 ∧ v139 ≤ 60) := f138
              clear f138
              refine ov_icne (tgt := 102) d_297_95 (by decide) (by omega) (by omega) (fun c141 => ?_) (fun c141 => ?_)
              · skip
                refine ov_blk (ls2 := [(0, ov_r 90), (1, ov_i x), (2, ov_i y), (3, ov_i m), (4, ov_i bo), (5, ov_i w), (6, ov_i 0), (7, ov_i (x7 + 1))]) (st2 := []) (pc2 := 108) b_297_102_3 rfl rfl ?_
                refine ov_goto (tgt := 55) d_297_108 (by decide) ?_
                exact ih6 0 (x7 + 1) (by show (0 = 0 ∨ 0 = 1) ∧ 0 ≤ (x7 + 1) ∧ (x7 + 1) ≤ 4 ∧ (0 = 1 → 0 ≤ x ∧ x ≤ 5 ∧ 0 ≤ y ∧ y ≤ 8 ∧ 2 ≤ m ∧ m ≤ 4 ∧ y + m ≤ 9 ∧ 0 ≤ w ∧ w ≤ m - 1 ∧ (1 ≤ (x7 + 1) → ((h 96 (10 + 4 * (6 * y + x))) = 1 ∨ (h 96 (10 + 4 * (6 * y + x))) = 2))); omega) (by omega)
              · skip
                refine ov_blk (ls2 := [(0, ov_r 90), (1, ov_i x), (2, ov_i y), (3, ov_i m), (4, ov_i bo), (5, ov_i w), (6, ov_i x6), (7, ov_i x7)]) (st2 := [ov_i 1]) (pc2 := 99) b_297_98_1 rfl rfl ?_
                refine ov_goto (tgt := 103) d_297_99 (by decide) ?_
                refine ov_blk (ls2 := [(0, ov_r 90), (1, ov_i x), (2, ov_i y), (3, ov_i m), (4, ov_i bo), (5, ov_i w), (6, ov_i 1), (7, ov_i (x7 + 1))]) (st2 := []) (pc2 := 108) b_297_103_2 rfl rfl ?_
                refine ov_goto (tgt := 55) d_297_108 (by decide) ?_
                exact ih6 1 (x7 + 1) (by show (1 = 0 ∨ 1 = 1) ∧ 0 ≤ (x7 + 1) ∧ (x7 + 1) ≤ 4 ∧ (1 = 1 → 0 ≤ x ∧ x ≤ 5 ∧ 0 ≤ y ∧ y ≤ 8 ∧ 2 ≤ m ∧ m ≤ 4 ∧ y + m ≤ 9 ∧ 0 ≤ w ∧ w ≤ m - 1 ∧ (1 ≤ (x7 + 1) → ((h 96 (10 + 4 * (6 * y + x))) = 1 ∨ (h 96 (10 + 4 * (6 * y + x))) = 2))); omega) (by omega)
    exact L8 5 j3 0 (by show (j3 = 0 ∨ j3 = 1) ∧ 0 ≤ 0 ∧ 0 ≤ 4 ∧ (j3 = 1 → 0 ≤ x ∧ x ≤ 5 ∧ 0 ≤ y ∧ y ≤ 8 ∧ 2 ≤ m ∧ m ≤ 4 ∧ y + m ≤ 9 ∧ 0 ≤ w ∧ w ≤ m - 1 ∧ (1 ≤ 0 → ((h 96 (10 + 4 * (6 * y + x))) = 1 ∨ (h 96 (10 + 4 * (6 * y + x))) = 2))); omega) (by omega)
  refine ov_blk (ls2 := [(0, ov_r 90), (1, ov_i x), (2, ov_i y), (3, ov_i m), (4, ov_i bo), (5, ov_i w)]) (st2 := [ov_i y, ov_i x, ov_r 90]) (pc2 := 8) b_297_5_3 rfl rfl ?_
  refine ov_cV (as := [ov_i x, ov_i y]) (st := []) (d2 := d - 1) d_297_8 lk_Mo_296 rfl (Nat.le_of_ble_eq_true rfl) (c := 1) (zb_90 I1) (zs_90 I1) ⟨by decide, rfl⟩ (by omega) (c_Mo_isCorner_90 (d - 1) (by omega) U I1 x y (by omega) (by omega)) ?_
  rintro _ _ _ ⟨v143, rfl, rfl, rfl, f142⟩
  show ov_R u d ov_m297 11 [(0, ov_r 90), (1, ov_i x), (2, ov_i y), (3, ov_i m), (4, ov_i bo), (5, ov_i w)] [ov_i v143] z (ov_up h 90 0 0) (P_Mo_wave_90 F z h x y m bo w)
  have f144 : (v143 = 0 ∨ v143 = 1) ∧ (v143 = 1 → 0 ≤ x ∧ x ≤ 5 ∧ 0 ≤ y ∧ y ≤ 8 ∧ x < (h 96 0) ∧ y < (h 96 1)) := f142
  clear f142
  refine ov_ifeq (tgt := 49) d_297_11 (by decide) (by omega) (fun c145 => ?_) (fun c145 => ?_)
  · skip
    have f144_ : v143 = 0 := by omega
    clear f144
    refine ov_blk (ls2 := [(0, ov_r 90), (1, ov_i x), (2, ov_i y), (3, ov_i m), (4, ov_i bo), (5, ov_i w), (6, ov_i 0)]) (st2 := []) (pc2 := 52) b_297_49_2 rfl rfl ?_
    exact J2 0 (by show (0 = 0 ∨ 0 = 1) ∧ (0 = 1 → 0 ≤ x ∧ x ≤ 5 ∧ 0 ≤ y ∧ y ≤ 8 ∧ 2 ≤ m ∧ m ≤ 4 ∧ y + m ≤ 9 ∧ 0 ≤ w ∧ w ≤ m - 1); omega)
  · skip
    have f144_ : v143 = 1 := by omega
    have f146 : 0 ≤ x ∧ x ≤ 5 ∧ 0 ≤ y ∧ y ≤ 8 ∧ x < (h 96 0) ∧ y < (h 96 1) := f144.2 (by omega)
    clear f144
    refine ov_blk (ls2 := [(0, ov_r 90), (1, ov_i x), (2, ov_i y), (3, ov_i m), (4, ov_i bo), (5, ov_i w)]) (st2 := [ov_i 4, ov_i 2, ov_i m]) (pc2 := 17) b_297_14_3 rfl rfl ?_
    refine ov_cS (as := [ov_i m, ov_i 2, ov_i 4]) (st := []) (d2 := d - 1) d_297_17 lk_Mo_299 rfl (Nat.le_of_ble_eq_true rfl) (by omega) (c_Mo_within (d - 1) (by omega) U I1 m 2 4 (by omega) (by omega) (by omega)) ?_
    rintro _ _ _ ⟨v148, rfl, rfl, rfl, f147⟩
    show ov_R u d ov_m297 20 [(0, ov_r 90), (1, ov_i x), (2, ov_i y), (3, ov_i m), (4, ov_i bo), (5, ov_i w)] [ov_i v148] z (ov_up h 90 0 0) (P_Mo_wave_90 F z h x y m bo w)
    have f149 : (v148 = 0 ∨ v148 = 1) ∧ (v148 = 1 → (2 : Int) ≤ m ∧ m ≤ (4 : Int)) ∧ (v148 = 0 → m < (2 : Int) ∨ (4 : Int) < m) := f147
    clear f147
    refine ov_ifeq (tgt := 49) d_297_20 (by decide) (by omega) (fun c150 => ?_) (fun c150 => ?_)
    · skip
      have f149_ : v148 = 0 := by omega
      have f151 : m < (2 : Int) ∨ (4 : Int) < m := f149.2.2 (by omega)
      clear f149
      refine ov_blk (ls2 := [(0, ov_r 90), (1, ov_i x), (2, ov_i y), (3, ov_i m), (4, ov_i bo), (5, ov_i w), (6, ov_i 0)]) (st2 := []) (pc2 := 52) b_297_49_2 rfl rfl ?_
      exact J2 0 (by show (0 = 0 ∨ 0 = 1) ∧ (0 = 1 → 0 ≤ x ∧ x ≤ 5 ∧ 0 ≤ y ∧ y ≤ 8 ∧ 2 ≤ m ∧ m ≤ 4 ∧ y + m ≤ 9 ∧ 0 ≤ w ∧ w ≤ m - 1); omega)
    · skip
      have f149_ : v148 = 1 := by omega
      have f152 : (2 : Int) ≤ m ∧ m ≤ (4 : Int) := f149.2.1 (by omega)
      clear f149
      refine ov_blk (ls2 := [(0, ov_r 90), (1, ov_i x), (2, ov_i y), (3, ov_i m), (4, ov_i bo), (5, ov_i w)]) (st2 := [ov_r 90, ov_i (y + m)]) (pc2 := 27) b_297_23_4 rfl rfl ?_
      refine ov_cV (as := []) (st := [ov_i (y + m)]) (d2 := d - 1) d_297_27 lk_Mo_279 rfl (Nat.le_of_ble_eq_true rfl) (c := 1) (zb_90 I1) (zs_90 I1) ⟨by decide, rfl⟩ (by omega) (c_Mo_deep_90 (d - 1) (by omega) U I1) ?_
      rintro _ _ _ ⟨v154, rfl, rfl, rfl, f153⟩
      show ov_R u d ov_m297 30 [(0, ov_r 90), (1, ov_i x), (2, ov_i y), (3, ov_i m), (4, ov_i bo), (5, ov_i w)] [ov_i v154, ov_i (y + m)] z (ov_up h 90 0 0) (P_Mo_wave_90 F z h x y m bo w)
      have f155 : v154 = (h 96 1) ∧ 1 ≤ v154 ∧ v154 ≤ 9 := f153
      clear f153
      refine ov_icgt (tgt := 49) d_297_30 (by decide) (by omega) (by omega) (fun c156 => ?_) (fun c156 => ?_)
      · skip
        refine ov_blk (ls2 := [(0, ov_r 90), (1, ov_i x), (2, ov_i y), (3, ov_i m), (4, ov_i bo), (5, ov_i w), (6, ov_i 0)]) (st2 := []) (pc2 := 52) b_297_49_2 rfl rfl ?_
        exact J2 0 (by show (0 = 0 ∨ 0 = 1) ∧ (0 = 1 → 0 ≤ x ∧ x ≤ 5 ∧ 0 ≤ y ∧ y ≤ 8 ∧ 2 ≤ m ∧ m ≤ 4 ∧ y + m ≤ 9 ∧ 0 ≤ w ∧ w ≤ m - 1); omega)
      · skip
        refine ov_blk (ls2 := [(0, ov_r 90), (1, ov_i x), (2, ov_i y), (3, ov_i m), (4, ov_i bo), (5, ov_i w)]) (st2 := [ov_i (m - 1), ov_i 0, ov_i w]) (pc2 := 39) b_297_33_5 rfl rfl ?_
        refine ov_cS (as := [ov_i w, ov_i 0, ov_i (m - 1)]) (st := []) (d2 := d - 1) d_297_39 lk_Mo_299 rfl (Nat.le_of_ble_eq_true rfl) (by omega) (c_Mo_within (d - 1) (by omega) U I1 w 0 (m - 1) (by omega) (by omega) (by omega)) ?_
        rintro _ _ _ ⟨v158, rfl, rfl, rfl, f157⟩
        show ov_R u d ov_m297 42 [(0, ov_r 90), (1, ov_i x), (2, ov_i y), (3, ov_i m), (4, ov_i bo), (5, ov_i w)] [ov_i v158] z (ov_up h 90 0 0) (P_Mo_wave_90 F z h x y m bo w)
        have f159 : (v158 = 0 ∨ v158 = 1) ∧ (v158 = 1 → (0 : Int) ≤ w ∧ w ≤ (m - 1)) ∧ (v158 = 0 → w < (0 : Int) ∨ (m - 1) < w) := f157
        clear f157
        refine ov_ifeq (tgt := 49) d_297_42 (by decide) (by omega) (fun c160 => ?_) (fun c160 => ?_)
        · skip
          have f159_ : v158 = 0 := by omega
          have f161 : w < (0 : Int) ∨ (m - 1) < w := f159.2.2 (by omega)
          clear f159
          refine ov_blk (ls2 := [(0, ov_r 90), (1, ov_i x), (2, ov_i y), (3, ov_i m), (4, ov_i bo), (5, ov_i w), (6, ov_i 0)]) (st2 := []) (pc2 := 52) b_297_49_2 rfl rfl ?_
          exact J2 0 (by show (0 = 0 ∨ 0 = 1) ∧ (0 = 1 → 0 ≤ x ∧ x ≤ 5 ∧ 0 ≤ y ∧ y ≤ 8 ∧ 2 ≤ m ∧ m ≤ 4 ∧ y + m ≤ 9 ∧ 0 ≤ w ∧ w ≤ m - 1); omega)
        · skip
          have f159_ : v158 = 1 := by omega
          have f162 : (0 : Int) ≤ w ∧ w ≤ (m - 1) := f159.2.1 (by omega)
          clear f159
          refine ov_blk (ls2 := [(0, ov_r 90), (1, ov_i x), (2, ov_i y), (3, ov_i m), (4, ov_i bo), (5, ov_i w)]) (st2 := [ov_i 1]) (pc2 := 46) b_297_45_1 rfl rfl ?_
          refine ov_goto (tgt := 50) d_297_46 (by decide) ?_
          refine ov_blk (ls2 := [(0, ov_r 90), (1, ov_i x), (2, ov_i y), (3, ov_i m), (4, ov_i bo), (5, ov_i w), (6, ov_i 1)]) (st2 := []) (pc2 := 52) b_297_50_1 rfl rfl ?_
          exact J2 1 (by show (1 = 0 ∨ 1 = 1) ∧ (1 = 1 → 0 ≤ x ∧ x ≤ 5 ∧ 0 ≤ y ∧ y ≤ 8 ∧ 2 ≤ m ∧ m ≤ 4 ∧ y + m ≤ 9 ∧ 0 ≤ w ∧ w ≤ m - 1); omega)

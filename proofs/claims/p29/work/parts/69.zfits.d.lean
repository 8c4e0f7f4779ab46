abbrev P_OF_fits_0_t (F : ov_H) (z : ov_Z) (h : ov_H) (w : Int) : Option ov_V → ov_Z → ov_H → Prop := fun r0 z' h' => ∃ r : Int, r0 = some (ov_l r) ∧ ov_I F z' h' ∧ ((h' 36 7) = (h 36 7) ∧ (h' 1 1) = (h 1 1) ∧ (h' 90 2) = (h 90 2) ∧ (h' 0 10) = (h 0 10) ∧ (h' 0 11) = (h 0 11) ∧ (h' 0 12) = (h 0 12) ∧ (h' 0 13) = (h 0 13) ∧ (h' 3 1) = (h 3 1) ∧ (h' 36 8) = (h 36 8) ∧ (h' 49 4) = (h 49 4) ∧ (h' 49 5) = (h 49 5) ∧ (h' 64 0) = (h 64 0) ∧ (h' 76 0) = (h 76 0)) ∧ (h 0 10 = 58 → r = ft_fc (ov_tw58 F) (h 7) (h 8) (h 4 5) w) ∧ (h 0 10 = 70 → r = ft_fc (ov_tw70 F) (h 7) (h 8) (h 4 5) w)
set_option maxHeartbeats 4000000 in
theorem c_OF_fits_0_t {u : ov_U} {F : ov_H} (ft58 : ov_fT 58 F) (ft70 : ov_fT 70 F) {z : ov_Z} {h : ov_H} (d : Nat) (hd : 60 ≤ d) (U : ov_cap u) (I : ov_I F z h) (w : Int) (g_w : ov_g w) (p0 : (h 0 10 = 58 ∧ h 0 11 = 70 ∧ 0 ≤ h 64 0 ∧ F (-5) 58 = 1 ∨ h 0 10 = 70 ∧ h 0 11 = 58 ∧ 0 ≤ h 76 0 ∧ F (-5) 70 = 1)) : ov_T u d ov_m187 [ov_r 0, ov_i w] z h (P_OF_fits_0_t F z h w) := by
  refine ov_en rfl (Nat.le_of_ble_eq_true rfl) ?_
  show ov_R u d ov_m187 0 [(0, ov_r 0), (1, ov_i w)] [] z h (P_OF_fits_0_t F z h w)
  refine ov_blk (ls2 := [(0, ov_r 0), (1, ov_i w)]) (st2 := [ov_i w]) (pc2 := 1) b_187_0_1 rfl rfl ?_
  refine ov_iflt (tgt := 9) d_187_1 (by decide) (by omega) (fun c1 => ?_) (fun c1 => ?_)
  · skip
    refine ov_ldc2 (n := (-1)) d_187_9 kc_OF_274 ?_
    exact ov_retl (st := []) d_187_12 rfl ⟨_, rfl, I, (by show (h 36 7) = (h 36 7) ∧ (h 1 1) = (h 1 1) ∧ (h 90 2) = (h 90 2) ∧ (h 0 10) = (h 0 10) ∧ (h 0 11) = (h 0 11) ∧ (h 0 12) = (h 0 12) ∧ (h 0 13) = (h 0 13) ∧ (h 3 1) = (h 3 1) ∧ (h 36 8) = (h 36 8) ∧ (h 49 4) = (h 49 4) ∧ (h 49 5) = (h 49 5) ∧ (h 64 0) = (h 64 0) ∧ (h 76 0) = (h 76 0); omega), ⟨fun _ => (by unfold ft_fc ft_ac; rw [if_neg (fun q => by omega)]), fun _ => (by unfold ft_fc ft_ac; rw [if_neg (fun q => by omega)])⟩⟩
  · skip
    refine ov_blk (ls2 := [(0, ov_r 0), (1, ov_i w)]) (st2 := [ov_i 3, ov_i w]) (pc2 := 6) b_187_4_2 rfl rfl ?_
    refine ov_icle (tgt := 13) d_187_6 (by decide) (by omega) (by omega) (fun c2 => ?_) (fun c2 => ?_)
    · skip
      refine ov_blk (ls2 := [(0, ov_r 0), (1, ov_i w)]) (st2 := [ov_r 0]) (pc2 := 14) b_187_13_1 rfl rfl ?_
      refine ov_getf (v := ov_r 46) d_187_14 fl_OF_57 (zb_0 I) (zs_0 I) (congrArg ov_r (rg_0_7 I)) ?_
      refine ov_blk (ls2 := [(0, ov_r 0), (1, ov_i w)]) (st2 := [ov_r 0, ov_r 46]) (pc2 := 18) b_187_17_1 rfl rfl ?_
      rcases rg_0_10 I with e3 | e3
      · skip
        refine ov_getf (v := ov_r 58) d_187_18 fl_OF_78 (zb_0 I) (zs_0 I) (congrArg ov_r e3) ?_
        refine ov_blk (ls2 := [(0, ov_r 0), (1, ov_i w)]) (st2 := [ov_r 0, ov_r 58, ov_r 46]) (pc2 := 22) b_187_21_1 rfl rfl ?_
        refine ov_getf (v := ov_r 4) d_187_22 fl_OF_28 (zb_0 I) (zs_0 I) (congrArg ov_r (rg_0_2 I)) ?_
        refine ov_cV (as := [ov_r 58, ov_r 4]) (st := []) (d2 := d - 1) d_187_25 lk_OF_298 rfl (Nat.le_of_ble_eq_true rfl) (c := 12) (zb_46 I) (zs_46 I) ⟨by decide, rfl⟩ (by omega) (c_Ways_fitSightings_46_58_t ft58 (d - 1) (by omega) U I (by omega) (by omega)) ?_
        rintro _ z5 h6 ⟨rfl, I7, f4, xf⟩
        show ov_R u d ov_m187 28 [(0, ov_r 0), (1, ov_i w)] [] z5 h6 (P_OF_fits_0_t F z h w)
        have f8 : 0 ≤ (h6 46 0) ∧ (h6 46 0) ≤ 8192 ∧ (h6 46 3) = 58 ∧ (h6 46 4) = 4 ∧ (h6 36 7) = (h 36 7) ∧ (h6 1 1) = (h 1 1) ∧ (h6 90 2) = (h 90 2) ∧ (h6 0 10) = (h 0 10) ∧ (h6 0 11) = (h 0 11) ∧ (h6 0 12) = (h 0 12) ∧ (h6 0 13) = (h 0 13) ∧ (h6 3 1) = (h 3 1) ∧ (h6 36 8) = (h 36 8) ∧ (h6 49 4) = (h 49 4) ∧ (h6 49 5) = (h 49 5) ∧ (h6 64 0) = (h 64 0) ∧ (h6 76 0) = (h 76 0) := f4
        clear f4
        have e9 : h6 0 10 = 58 := by omega
        have e10 : h6 46 3 = 58 := by omega
        have e11 : h6 46 4 = 4 := by omega
        refine ov_blk (ls2 := [(0, ov_r 0), (1, ov_i w)]) (st2 := [ov_i w]) (pc2 := 29) b_187_28_1 rfl rfl ?_
        refine ov_ifne (tgt := 41) d_187_29 (by decide) (by omega) (fun c12 => ?_) (fun c12 => ?_)
        · skip
          refine ov_blk (ls2 := [(0, ov_r 0), (1, ov_i w)]) (st2 := [ov_r 0]) (pc2 := 42) b_187_41_1 rfl rfl ?_
          refine ov_getf (v := ov_r 46) d_187_42 fl_OF_57 (zb_0 I7) (zs_0 I7) (congrArg ov_r (rg_0_7 I7)) ?_
          refine ov_getf (v := ov_i (h6 46 0)) d_187_45 fl_OF_302 (zb_46 I7) (zs_46 I7) rfl ?_
          have g13 := rg_46_0 I7
          refine ov_ifne (tgt := 55) d_187_48 (by decide) (by omega) (fun c14 => ?_) (fun c14 => ?_)
          · skip
            refine ov_blk (ls2 := [(0, ov_r 0), (1, ov_i w)]) (st2 := [ov_i 1, ov_i w]) (pc2 := 57) b_187_55_2 rfl rfl ?_
            refine ov_icne (tgt := 68) d_187_57 (by decide) (by omega) (by omega) (fun c15 => ?_) (fun c15 => ?_)
            · skip
              refine ov_blk (ls2 := [(0, ov_r 0), (1, ov_i w)]) (st2 := [ov_i 2, ov_i w]) (pc2 := 70) b_187_68_2 rfl rfl ?_
              refine ov_icne (tgt := 86) d_187_70 (by decide) (by omega) (by omega) (fun c16 => ?_) (fun c16 => ?_)
              · skip
                refine ov_blk (ls2 := [(0, ov_r 0), (1, ov_i w)]) (st2 := [ov_r 0]) (pc2 := 87) b_187_86_1 rfl rfl ?_
                refine ov_getf (v := ov_r 46) d_187_87 fl_OF_57 (zb_0 I7) (zs_0 I7) (congrArg ov_r (rg_0_7 I7)) ?_
                refine ov_blk (ls2 := [(0, ov_r 0), (1, ov_i w)]) (st2 := [ov_i 9, ov_i 8, ov_r 46]) (pc2 := 94) b_187_90_2 rfl rfl ?_
                refine ov_cV (as := [ov_i 8, ov_i 9]) (st := []) (d2 := d - 1) d_187_94 lk_OF_308 rfl (Nat.le_of_ble_eq_true rfl) (c := 12) (zb_46 I7) (zs_46 I7) ⟨by decide, rfl⟩ (by omega) (c_fWays_commonRows_46 (d - 1) (by omega) U I7 8 9 (by omega) (by omega) (by omega)) ?_
                rintro _ _ _ ⟨v18, rfl, rfl, rfl, f17⟩
                show ov_R u d ov_m187 97 [(0, ov_r 0), (1, ov_i w)] [ov_l v18] z5 h6 (P_OF_fits_0_t F z h w)
                have f19 : v18 = ft_cr (h6 46 2) (8 : Int) (Int.toNat ((9 : Int) - (8 : Int))) := f17
                clear f17
                exact ov_retl (st := []) d_187_97 rfl ⟨_, rfl, I7, (by show (h6 36 7) = (h 36 7) ∧ (h6 1 1) = (h 1 1) ∧ (h6 90 2) = (h 90 2) ∧ (h6 0 10) = (h 0 10) ∧ (h6 0 11) = (h 0 11) ∧ (h6 0 12) = (h 0 12) ∧ (h6 0 13) = (h 0 13) ∧ (h6 3 1) = (h 3 1) ∧ (h6 36 8) = (h 36 8) ∧ (h6 49 4) = (h 49 4) ∧ (h6 49 5) = (h 49 5) ∧ (h6 64 0) = (h 64 0) ∧ (h6 76 0) = (h 76 0); omega), ⟨fun _ => (by unfold ft_fc; rw [← xf]; unfold ft_ac; show v18 = (if 0 ≤ w ∧ w ≤ 3 then (if w = 0 then (h6 46 0) else if (h6 46 0) = 0 then -1 else if w = 1 then (h6 46 1) else if w = 2 then ft_cr (h6 46 2) 0 (Int.toNat (8 - 0)) else ft_cr (h6 46 2) 8 (Int.toNat (9 - 8))) else -1); (repeat' split) <;> omega), (fun e => absurd e (by omega))⟩⟩
              · skip
                refine ov_blk (ls2 := [(0, ov_r 0), (1, ov_i w)]) (st2 := [ov_r 0]) (pc2 := 74) b_187_73_1 rfl rfl ?_
                refine ov_getf (v := ov_r 46) d_187_74 fl_OF_57 (zb_0 I7) (zs_0 I7) (congrArg ov_r (rg_0_7 I7)) ?_
                refine ov_blk (ls2 := [(0, ov_r 0), (1, ov_i w)]) (st2 := [ov_i 8, ov_i 0, ov_r 46]) (pc2 := 80) b_187_77_2 rfl rfl ?_
                refine ov_cV (as := [ov_i 0, ov_i 8]) (st := []) (d2 := d - 1) d_187_80 lk_OF_308 rfl (Nat.le_of_ble_eq_true rfl) (c := 12) (zb_46 I7) (zs_46 I7) ⟨by decide, rfl⟩ (by omega) (c_fWays_commonRows_46 (d - 1) (by omega) U I7 0 8 (by omega) (by omega) (by omega)) ?_
                rintro _ _ _ ⟨v21, rfl, rfl, rfl, f20⟩
                show ov_R u d ov_m187 83 [(0, ov_r 0), (1, ov_i w)] [ov_l v21] z5 h6 (P_OF_fits_0_t F z h w)
                have f22 : v21 = ft_cr (h6 46 2) (0 : Int) (Int.toNat ((8 : Int) - (0 : Int))) := f20
                clear f20
                refine ov_goto (tgt := 97) d_187_83 (by decide) ?_
                exact ov_retl (st := []) d_187_97 rfl ⟨_, rfl, I7, (by show (h6 36 7) = (h 36 7) ∧ (h6 1 1) = (h 1 1) ∧ (h6 90 2) = (h 90 2) ∧ (h6 0 10) = (h 0 10) ∧ (h6 0 11) = (h 0 11) ∧ (h6 0 12) = (h 0 12) ∧ (h6 0 13) = (h 0 13) ∧ (h6 3 1) = (h 3 1) ∧ (h6 36 8) = (h 36 8) ∧ (h6 49 4) = (h 49 4) ∧ (h6 49 5) = (h 49 5) ∧ (h6 64 0) = (h 64 0) ∧ (h6 76 0) = (h 76 0); omega), ⟨fun _ => (by unfold ft_fc; rw [← xf]; unfold ft_ac; show v21 = (if 0 ≤ w ∧ w ≤ 3 then (if w = 0 then (h6 46 0) else if (h6 46 0) = 0 then -1 else if w = 1 then (h6 46 1) else if w = 2 then ft_cr (h6 46 2) 0 (Int.toNat (8 - 0)) else ft_cr (h6 46 2) 8 (Int.toNat (9 - 8))) else -1); (repeat' split) <;> omega), (fun e => absurd e (by omega))⟩⟩
            · skip
              refine ov_blk (ls2 := [(0, ov_r 0), (1, ov_i w)]) (st2 := [ov_r 0]) (pc2 := 61) b_187_60_1 rfl rfl ?_
              refine ov_getf (v := ov_r 46) d_187_61 fl_OF_57 (zb_0 I7) (zs_0 I7) (congrArg ov_r (rg_0_7 I7)) ?_
              refine ov_getf (v := ov_l (h6 46 1)) d_187_64 fl_OF_305 (zb_46 I7) (zs_46 I7) rfl ?_
              exact ov_retl (st := []) d_187_67 rfl ⟨_, rfl, I7, (by show (h6 36 7) = (h 36 7) ∧ (h6 1 1) = (h 1 1) ∧ (h6 90 2) = (h 90 2) ∧ (h6 0 10) = (h 0 10) ∧ (h6 0 11) = (h 0 11) ∧ (h6 0 12) = (h 0 12) ∧ (h6 0 13) = (h 0 13) ∧ (h6 3 1) = (h 3 1) ∧ (h6 36 8) = (h 36 8) ∧ (h6 49 4) = (h 49 4) ∧ (h6 49 5) = (h 49 5) ∧ (h6 64 0) = (h 64 0) ∧ (h6 76 0) = (h 76 0); omega), ⟨fun _ => (by unfold ft_fc; rw [← xf]; unfold ft_ac; show (h6 46 1) = (if 0 ≤ w ∧ w ≤ 3 then (if w = 0 then (h6 46 0) else if (h6 46 0) = 0 then -1 else if w = 1 then (h6 46 1) else if w = 2 then ft_cr (h6 46 2) 0 (Int.toNat (8 - 0)) else ft_cr (h6 46 2) 8 (Int.toNat (9 - 8))) else -1); (repeat' split) <;> omega), (fun e => absurd e (by omega))⟩⟩
          · skip
            refine ov_ldc2 (n := (-1)) d_187_51 kc_OF_274 ?_
            exact ov_retl (st := []) d_187_54 rfl ⟨_, rfl, I7, (by show (h6 36 7) = (h 36 7) ∧ (h6 1 1) = (h 1 1) ∧ (h6 90 2) = (h 90 2) ∧ (h6 0 10) = (h 0 10) ∧ (h6 0 11) = (h 0 11) ∧ (h6 0 12) = (h 0 12) ∧ (h6 0 13) = (h 0 13) ∧ (h6 3 1) = (h 3 1) ∧ (h6 36 8) = (h 36 8) ∧ (h6 49 4) = (h 49 4) ∧ (h6 49 5) = (h 49 5) ∧ (h6 64 0) = (h 64 0) ∧ (h6 76 0) = (h 76 0); omega), ⟨fun _ => (by unfold ft_fc; rw [← xf]; unfold ft_ac; show (-1) = (if 0 ≤ w ∧ w ≤ 3 then (if w = 0 then (h6 46 0) else if (h6 46 0) = 0 then -1 else if w = 1 then (h6 46 1) else if w = 2 then ft_cr (h6 46 2) 0 (Int.toNat (8 - 0)) else ft_cr (h6 46 2) 8 (Int.toNat (9 - 8))) else -1); (repeat' split) <;> omega), (fun e => absurd e (by omega))⟩⟩
        · skip
          refine ov_blk (ls2 := [(0, ov_r 0), (1, ov_i w)]) (st2 := [ov_r 0]) (pc2 := 33) b_187_32_1 rfl rfl ?_
          refine ov_getf (v := ov_r 46) d_187_33 fl_OF_57 (zb_0 I7) (zs_0 I7) (congrArg ov_r (rg_0_7 I7)) ?_
          refine ov_getf (v := ov_i (h6 46 0)) d_187_36 fl_OF_302 (zb_46 I7) (zs_46 I7) rfl ?_
          have g23 := rg_46_0 I7
          refine ov_blk (ls2 := [(0, ov_r 0), (1, ov_i w)]) (st2 := [ov_l (ov_w (h6 46 0))]) (pc2 := 40) b_187_39_1 rfl rfl ?_
          have g24 := ov_wg (h6 46 0)
          have g25 := ov_wq (h6 46 0)
          exact ov_retl (st := []) d_187_40 rfl ⟨_, rfl, I7, (by show (h6 36 7) = (h 36 7) ∧ (h6 1 1) = (h 1 1) ∧ (h6 90 2) = (h 90 2) ∧ (h6 0 10) = (h 0 10) ∧ (h6 0 11) = (h 0 11) ∧ (h6 0 12) = (h 0 12) ∧ (h6 0 13) = (h 0 13) ∧ (h6 3 1) = (h 3 1) ∧ (h6 36 8) = (h 36 8) ∧ (h6 49 4) = (h 49 4) ∧ (h6 49 5) = (h 49 5) ∧ (h6 64 0) = (h 64 0) ∧ (h6 76 0) = (h 76 0); omega), ⟨fun _ => (by unfold ft_fc; rw [← xf]; unfold ft_ac; show (ov_w (h6 46 0)) = (if 0 ≤ w ∧ w ≤ 3 then (if w = 0 then (h6 46 0) else if (h6 46 0) = 0 then -1 else if w = 1 then (h6 46 1) else if w = 2 then ft_cr (h6 46 2) 0 (Int.toNat (8 - 0)) else ft_cr (h6 46 2) 8 (Int.toNat (9 - 8))) else -1); (repeat' split) <;> omega), (fun e => absurd e (by omega))⟩⟩
      · skip
        refine ov_getf (v := ov_r 70) d_187_18 fl_OF_78 (zb_0 I) (zs_0 I) (congrArg ov_r e3) ?_
        refine ov_blk (ls2 := [(0, ov_r 0), (1, ov_i w)]) (st2 := [ov_r 0, ov_r 70, ov_r 46]) (pc2 := 22) b_187_21_1 rfl rfl ?_
        refine ov_getf (v := ov_r 4) d_187_22 fl_OF_28 (zb_0 I) (zs_0 I) (congrArg ov_r (rg_0_2 I)) ?_
        refine ov_cV (as := [ov_r 70, ov_r 4]) (st := []) (d2 := d - 1) d_187_25 lk_OF_298 rfl (Nat.le_of_ble_eq_true rfl) (c := 12) (zb_46 I) (zs_46 I) ⟨by decide, rfl⟩ (by omega) (c_Ways_fitSightings_46_70_t ft70 (d - 1) (by omega) U I (by omega) (by omega)) ?_
        rintro _ z27 h28 ⟨rfl, I29, f26, xf⟩
        show ov_R u d ov_m187 28 [(0, ov_r 0), (1, ov_i w)] [] z27 h28 (P_OF_fits_0_t F z h w)
        have f30 : 0 ≤ (h28 46 0) ∧ (h28 46 0) ≤ 8192 ∧ (h28 46 3) = 70 ∧ (h28 46 4) = 4 ∧ (h28 36 7) = (h 36 7) ∧ (h28 1 1) = (h 1 1) ∧ (h28 90 2) = (h 90 2) ∧ (h28 0 10) = (h 0 10) ∧ (h28 0 11) = (h 0 11) ∧ (h28 0 12) = (h 0 12) ∧ (h28 0 13) = (h 0 13) ∧ (h28 3 1) = (h 3 1) ∧ (h28 36 8) = (h 36 8) ∧ (h28 49 4) = (h 49 4) ∧ (h28 49 5) = (h 49 5) ∧ (h28 64 0) = (h 64 0) ∧ (h28 76 0) = (h 76 0) := f26
        clear f26
        have e31 : h28 0 10 = 70 := by omega
        have e32 : h28 46 3 = 70 := by omega
        have e33 : h28 46 4 = 4 := by omega
        refine ov_blk (ls2 := [(0, ov_r 0), (1, ov_i w)]) (st2 := [ov_i w]) (pc2 := 29) b_187_28_1 rfl rfl ?_
        refine ov_ifne (tgt := 41) d_187_29 (by decide) (by omega) (fun c34 => ?_) (fun c34 => ?_)
        · skip
          refine ov_blk (ls2 := [(0, ov_r 0), (1, ov_i w)]) (st2 := [ov_r 0]) (pc2 := 42) b_187_41_1 rfl rfl ?_
          refine ov_getf (v := ov_r 46) d_187_42 fl_OF_57 (zb_0 I29) (zs_0 I29) (congrArg ov_r (rg_0_7 I29)) ?_
          refine ov_getf (v := ov_i (h28 46 0)) d_187_45 fl_OF_302 (zb_46 I29) (zs_46 I29) rfl ?_
          have g35 := rg_46_0 I29
          refine ov_ifne (tgt := 55) d_187_48 (by decide) (by omega) (fun c36 => ?_) (fun c36 => ?_)
          · skip
            refine ov_blk (ls2 := [(0, ov_r 0), (1, ov_i w)]) (st2 := [ov_i 1, ov_i w]) (pc2 := 57) b_187_55_2 rfl rfl ?_
            refine ov_icne (tgt := 68) d_187_57 (by decide) (by omega) (by omega) (fun c37 => ?_) (fun c37 => ?_)
            · skip
              refine ov_blk (ls2 := [(0, ov_r 0), (1, ov_i w)]) (st2 := [ov_i 2, ov_i w]) (pc2 := 70) b_187_68_2 rfl rfl ?_
              refine ov_icne (tgt := 86) d_187_70 (by decide) (by omega) (by omega) (fun c38 => ?_) (fun c38 => ?_)
              · skip
                refine ov_blk (ls2 := [(0, ov_r 0), (1, ov_i w)]) (st2 := [ov_r 0]) (pc2 := 87) b_187_86_1 rfl rfl ?_
                refine ov_getf (v := ov_r 46) d_187_87 fl_OF_57 (zb_0 I29) (zs_0 I29) (congrArg ov_r (rg_0_7 I29)) ?_
                refine ov_blk (ls2 := [(0, ov_r 0), (1, ov_i w)]) (st2 := [ov_i 9, ov_i 8, ov_r 46]) (pc2 := 94) b_187_90_2 rfl rfl ?_
                refine ov_cV (as := [ov_i 8, ov_i 9]) (st := []) (d2 := d - 1) d_187_94 lk_OF_308 rfl (Nat.le_of_ble_eq_true rfl) (c := 12) (zb_46 I29) (zs_46 I29) ⟨by decide, rfl⟩ (by omega) (c_fWays_commonRows_46 (d - 1) (by omega) U I29 8 9 (by omega) (by omega) (by omega)) ?_
                rintro _ _ _ ⟨v40, rfl, rfl, rfl, f39⟩
                show ov_R u d ov_m187 97 [(0, ov_r 0), (1, ov_i w)] [ov_l v40] z27 h28 (P_OF_fits_0_t F z h w)
                have f41 : v40 = ft_cr (h28 46 2) (8 : Int) (Int.toNat ((9 : Int) - (8 : Int))) := f39
                clear f39
                exact ov_retl (st := []) d_187_97 rfl ⟨_, rfl, I29, (by show (h28 36 7) = (h 36 7) ∧ (h28 1 1) = (h 1 1) ∧ (h28 90 2) = (h 90 2) ∧ (h28 0 10) = (h 0 10) ∧ (h28 0 11) = (h 0 11) ∧ (h28 0 12) = (h 0 12) ∧ (h28 0 13) = (h 0 13) ∧ (h28 3 1) = (h 3 1) ∧ (h28 36 8) = (h 36 8) ∧ (h28 49 4) = (h 49 4) ∧ (h28 49 5) = (h 49 5) ∧ (h28 64 0) = (h 64 0) ∧ (h28 76 0) = (h 76 0); omega), ⟨(fun e => absurd e (by omega)), fun _ => (by unfold ft_fc; rw [← xf]; unfold ft_ac; show v40 = (if 0 ≤ w ∧ w ≤ 3 then (if w = 0 then (h28 46 0) else if (h28 46 0) = 0 then -1 else if w = 1 then (h28 46 1) else if w = 2 then ft_cr (h28 46 2) 0 (Int.toNat (8 - 0)) else ft_cr (h28 46 2) 8 (Int.toNat (9 - 8))) else -1); (repeat' split) <;> omega)⟩⟩
              · skip
                refine ov_blk (ls2 := [(0, ov_r 0), (1, ov_i w)]) (st2 := [ov_r 0]) (pc2 := 74) b_187_73_1 rfl rfl ?_
                refine ov_getf (v := ov_r 46) d_187_74 fl_OF_57 (zb_0 I29) (zs_0 I29) (congrArg ov_r (rg_0_7 I29)) ?_
                refine ov_blk (ls2 := [(0, ov_r 0), (1, ov_i w)]) (st2 := [ov_i 8, ov_i 0, ov_r 46]) (pc2 := 80) b_187_77_2 rfl rfl ?_
                refine ov_cV (as := [ov_i 0, ov_i 8]) (st := []) (d2 := d - 1) d_187_80 lk_OF_308 rfl (Nat.le_of_ble_eq_true rfl) (c := 12) (zb_46 I29) (zs_46 I29) ⟨by decide, rfl⟩ (by omega) (c_fWays_commonRows_46 (d - 1) (by omega) U I29 0 8 (by omega) (by omega) (by omega)) ?_
                rintro _ _ _ ⟨v43, rfl, rfl, rfl, f42⟩
                show ov_R u d ov_m187 83 [(0, ov_r 0), (1, ov_i w)] [ov_l v43] z27 h28 (P_OF_fits_0_t F z h w)
                have f44 : v43 = ft_cr (h28 46 2) (0 : Int) (Int.toNat ((8 : Int) - (0 : Int))) := f42
                clear f42
                refine ov_goto (tgt := 97) d_187_83 (by decide) ?_
                exact ov_retl (st := []) d_187_97 rfl ⟨_, rfl, I29, (by show (h28 36 7) = (h 36 7) ∧ (h28 1 1) = (h 1 1) ∧ (h28 90 2) = (h 90 2) ∧ (h28 0 10) = (h 0 10) ∧ (h28 0 11) = (h 0 11) ∧ (h28 0 12) = (h 0 12) ∧ (h28 0 13) = (h 0 13) ∧ (h28 3 1) = (h 3 1) ∧ (h28 36 8) = (h 36 8) ∧ (h28 49 4) = (h 49 4) ∧ (h28 49 5) = (h 49 5) ∧ (h28 64 0) = (h 64 0) ∧ (h28 76 0) = (h 76 0); omega), ⟨(fun e => absurd e (by omega)), fun _ => (by unfold ft_fc; rw [← xf]; unfold ft_ac; show v43 = (if 0 ≤ w ∧ w ≤ 3 then (if w = 0 then (h28 46 0) else if (h28 46 0) = 0 then -1 else if w = 1 then (h28 46 1) else if w = 2 then ft_cr (h28 46 2) 0 (Int.toNat (8 - 0)) else ft_cr (h28 46 2) 8 (Int.toNat (9 - 8))) else -1); (repeat' split) <;> omega)⟩⟩
            · skip
              refine ov_blk (ls2 := [(0, ov_r 0), (1, ov_i w)]) (st2 := [ov_r 0]) (pc2 := 61) b_187_60_1 rfl rfl ?_
              refine ov_getf (v := ov_r 46) d_187_61 fl_OF_57 (zb_0 I29) (zs_0 I29) (congrArg ov_r (rg_0_7 I29)) ?_
              refine ov_getf (v := ov_l (h28 46 1)) d_187_64 fl_OF_305 (zb_46 I29) (zs_46 I29) rfl ?_
              exact ov_retl (st := []) d_187_67 rfl ⟨_, rfl, I29, (by show (h28 36 7) = (h 36 7) ∧ (h28 1 1) = (h 1 1) ∧ (h28 90 2) = (h 90 2) ∧ (h28 0 10) = (h 0 10) ∧ (h28 0 11) = (h 0 11) ∧ (h28 0 12) = (h 0 12) ∧ (h28 0 13) = (h 0 13) ∧ (h28 3 1) = (h 3 1) ∧ (h28 36 8) = (h 36 8) ∧ (h28 49 4) = (h 49 4) ∧ (h28 49 5) = (h 49 5) ∧ (h28 64 0) = (h 64 0) ∧ (h28 76 0) = (h 76 0); omega), ⟨(fun e => absurd e (by omega)), fun _ => (by unfold ft_fc; rw [← xf]; unfold ft_ac; show (h28 46 1) = (if 0 ≤ w ∧ w ≤ 3 then (if w = 0 then (h28 46 0) else if (h28 46 0) = 0 then -1 else if w = 1 then (h28 46 1) else if w = 2 then ft_cr (h28 46 2) 0 (Int.toNat (8 - 0)) else ft_cr (h28 46 2) 8 (Int.toNat (9 - 8))) else -1); (repeat' split) <;> omega)⟩⟩
          · skip
            refine ov_ldc2 (n := (-1)) d_187_51 kc_OF_274 ?_
            exact ov_retl (st := []) d_187_54 rfl ⟨_, rfl, I29, (by show (h28 36 7) = (h 36 7) ∧ (h28 1 1) = (h 1 1) ∧ (h28 90 2) = (h 90 2) ∧ (h28 0 10) = (h 0 10) ∧ (h28 0 11) = (h 0 11) ∧ (h28 0 12) = (h 0 12) ∧ (h28 0 13) = (h 0 13) ∧ (h28 3 1) = (h 3 1) ∧ (h28 36 8) = (h 36 8) ∧ (h28 49 4) = (h 49 4) ∧ (h28 49 5) = (h 49 5) ∧ (h28 64 0) = (h 64 0) ∧ (h28 76 0) = (h 76 0); omega), ⟨(fun e => absurd e (by omega)), fun _ => (by unfold ft_fc; rw [← xf]; unfold ft_ac; show (-1) = (if 0 ≤ w ∧ w ≤ 3 then (if w = 0 then (h28 46 0) else if (h28 46 0) = 0 then -1 else if w = 1 then (h28 46 1) else if w = 2 then ft_cr (h28 46 2) 0 (Int.toNat (8 - 0)) else ft_cr (h28 46 2) 8 (Int.toNat (9 - 8))) else -1); (repeat' split) <;> omega)⟩⟩
        · skip
          refine ov_blk (ls2 := [(0, ov_r 0), (1, ov_i w)]) (st2 := [ov_r 0]) (pc2 := 33) b_187_32_1 rfl rfl ?_
          refine ov_getf (v := ov_r 46) d_187_33 fl_OF_57 (zb_0 I29) (zs_0 I29) (congrArg ov_r (rg_0_7 I29)) ?_
          refine ov_getf (v := ov_i (h28 46 0)) d_187_36 fl_OF_302 (zb_46 I29) (zs_46 I29) rfl ?_
          have g45 := rg_46_0 I29
          refine ov_blk (ls2 := [(0, ov_r 0), (1, ov_i w)]) (st2 := [ov_l (ov_w (h28 46 0))]) (pc2 := 40) b_187_39_1 rfl rfl ?_
          have g46 := ov_wg (h28 46 0)
          have g47 := ov_wq (h28 46 0)
          exact ov_retl (st := []) d_187_40 rfl ⟨_, rfl, I29, (by show (h28 36 7) = (h 36 7) ∧ (h28 1 1) = (h 1 1) ∧ (h28 90 2) = (h 90 2) ∧ (h28 0 10) = (h 0 10) ∧ (h28 0 11) = (h 0 11) ∧ (h28 0 12) = (h 0 12) ∧ (h28 0 13) = (h 0 13) ∧ (h28 3 1) = (h 3 1) ∧ (h28 36 8) = (h 36 8) ∧ (h28 49 4) = (h 49 4) ∧ (h28 49 5) = (h 49 5) ∧ (h28 64 0) = (h 64 0) ∧ (h28 76 0) = (h 76 0); omega), ⟨(fun e => absurd e (by omega)), fun _ => (by unfold ft_fc; rw [← xf]; unfold ft_ac; show (ov_w (h28 46 0)) = (if 0 ≤ w ∧ w ≤ 3 then (if w = 0 then (h28 46 0) else if (h28 46 0) = 0 then -1 else if w = 1 then (h28 46 1) else if w = 2 then ft_cr (h28 46 2) 0 (Int.toNat (8 - 0)) else ft_cr (h28 46 2) 8 (Int.toNat (9 - 8))) else -1); (repeat' split) <;> omega)⟩⟩
    · skip
      refine ov_ldc2 (n := (-1)) d_187_9 kc_OF_274 ?_
      exact ov_retl (st := []) d_187_12 rfl ⟨_, rfl, I, (by show (h 36 7) = (h 36 7) ∧ (h 1 1) = (h 1 1) ∧ (h 90 2) = (h 90 2) ∧ (h 0 10) = (h 0 10) ∧ (h 0 11) = (h 0 11) ∧ (h 0 12) = (h 0 12) ∧ (h 0 13) = (h 0 13) ∧ (h 3 1) = (h 3 1) ∧ (h 36 8) = (h 36 8) ∧ (h 49 4) = (h 49 4) ∧ (h 49 5) = (h 49 5) ∧ (h 64 0) = (h 64 0) ∧ (h 76 0) = (h 76 0); omega), ⟨fun _ => (by unfold ft_fc ft_ac; rw [if_neg (fun q => by omega)]), fun _ => (by unfold ft_fc ft_ac; rw [if_neg (fun q => by omega)])⟩⟩

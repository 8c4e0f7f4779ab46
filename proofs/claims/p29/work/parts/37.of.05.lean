abbrev P_OF_mark_0 (F : ov_H) (z : ov_Z) (h : ov_H) (m : Int) (b : Int) : Option ov_V → ov_Z → ov_H → Prop := fun r0 z' h' => ∃ r : Int, r0 = some (ov_i r) ∧ ov_I F z' h' ∧ ((r = 0 ∨ r = 1) ∧ (h' 36 7) = (h 36 7) ∧ (h' 1 1) = (h 1 1) ∧ (h' 90 2) = (h 90 2) ∧ (h' 0 10) = (h 0 10) ∧ (h' 0 11) = (h 0 11) ∧ (h' 0 12) = (h 0 12) ∧ (h' 0 13) = (h 0 13) ∧ (h' 3 1) = (h 3 1) ∧ (h' 36 8) = (h 36 8) ∧ (h' 46 3) = (h 46 3) ∧ (h' 46 4) = (h 46 4) ∧ (h' 49 4) = (h 49 4) ∧ (h' 49 5) = (h 49 5) ∧ (h' 64 0) = (h 64 0) ∧ (h' 76 0) = (h 76 0))
set_option maxHeartbeats 4000000 in
theorem c_OF_mark_0 {u : ov_U} {F : ov_H} {z : ov_Z} {h : ov_H} (d : Nat) (hd : 3 ≤ d) (U : ov_cap u) (I : ov_I F z h) (hw : ov_kw 68719444976 F) (m : Int) (b : Int) (g_m : ov_g m) (g_b : b = 0 ∨ b = 1) : ov_T u d ov_m196 [ov_r 0, ov_i m, ov_i b] z h (P_OF_mark_0 F z h m b) := by
  refine ov_en rfl (Nat.le_of_ble_eq_true rfl) ?_
  show ov_R u d ov_m196 0 [(0, ov_r 0), (1, ov_i m), (2, ov_i b)] [] z h (P_OF_mark_0 F z h m b)
  refine ov_blk (ls2 := [(0, ov_r 0), (1, ov_i m), (2, ov_i b)]) (st2 := [ov_i m]) (pc2 := 1) b_196_0_1 rfl rfl ?_
  refine ov_iflt (tgt := 26) d_196_1 (by decide) (by omega) (fun c1 => ?_) (fun c1 => ?_)
  · skip
    refine ov_blk (ls2 := [(0, ov_r 0), (1, ov_i m), (2, ov_i b)]) (st2 := [ov_i 0]) (pc2 := 27) b_196_26_1 rfl rfl ?_
    exact ov_retz (st := []) d_196_27 rfl (by omega) ⟨_, rfl, I, (by show (0 = 0 ∨ 0 = 1) ∧ (h 36 7) = (h 36 7) ∧ (h 1 1) = (h 1 1) ∧ (h 90 2) = (h 90 2) ∧ (h 0 10) = (h 0 10) ∧ (h 0 11) = (h 0 11) ∧ (h 0 12) = (h 0 12) ∧ (h 0 13) = (h 0 13) ∧ (h 3 1) = (h 3 1) ∧ (h 36 8) = (h 36 8) ∧ (h 46 3) = (h 46 3) ∧ (h 46 4) = (h 46 4) ∧ (h 49 4) = (h 49 4) ∧ (h 49 5) = (h 49 5) ∧ (h 64 0) = (h 64 0) ∧ (h 76 0) = (h 76 0); omega)⟩
  · skip
    refine ov_blk (ls2 := [(0, ov_r 0), (1, ov_i m), (2, ov_i b)]) (st2 := [ov_r 0, ov_i m]) (pc2 := 6) b_196_4_2 rfl rfl ?_
    refine ov_getf (v := ov_r 14) d_196_6 fl_OF_39 (zb_0 I) (zs_0 I) (congrArg ov_r (rg_0_4 I)) ?_
    refine ov_alen d_196_9 (zb_14 I) (zs_14 I) (by decide) ?_
    show ov_R u d ov_m196 10 [(0, ov_r 0), (1, ov_i m), (2, ov_i b)] [ov_i 4, ov_i m] z h (P_OF_mark_0 F z h m b)
    refine ov_icge (tgt := 26) d_196_10 (by decide) (by omega) (by omega) (fun c2 => ?_) (fun c2 => ?_)
    · skip
      refine ov_blk (ls2 := [(0, ov_r 0), (1, ov_i m), (2, ov_i b)]) (st2 := [ov_i 0]) (pc2 := 27) b_196_26_1 rfl rfl ?_
      exact ov_retz (st := []) d_196_27 rfl (by omega) ⟨_, rfl, I, (by show (0 = 0 ∨ 0 = 1) ∧ (h 36 7) = (h 36 7) ∧ (h 1 1) = (h 1 1) ∧ (h 90 2) = (h 90 2) ∧ (h 0 10) = (h 0 10) ∧ (h 0 11) = (h 0 11) ∧ (h 0 12) = (h 0 12) ∧ (h 0 13) = (h 0 13) ∧ (h 3 1) = (h 3 1) ∧ (h 36 8) = (h 36 8) ∧ (h 46 3) = (h 46 3) ∧ (h 46 4) = (h 46 4) ∧ (h 49 4) = (h 49 4) ∧ (h 49 5) = (h 49 5) ∧ (h 64 0) = (h 64 0) ∧ (h 76 0) = (h 76 0); omega)⟩
    · skip
      refine ov_blk (ls2 := [(0, ov_r 0), (1, ov_i m), (2, ov_i b)]) (st2 := [ov_i b]) (pc2 := 14) b_196_13_1 rfl rfl ?_
      refine ov_ifeq (tgt := 28) d_196_14 (by decide) (by omega) (fun c3 => ?_) (fun c3 => ?_)
      · skip
        refine ov_blk (ls2 := [(0, ov_r 0), (1, ov_i m), (2, ov_i b)]) (st2 := [ov_i b]) (pc2 := 29) b_196_28_1 rfl rfl ?_
        refine ov_ifeq (tgt := 55) d_196_29 (by decide) (by omega) (fun c4 => ?_) (fun c4 => ?_)
        · skip
          refine ov_blk (ls2 := [(0, ov_r 0), (1, ov_i m), (2, ov_i b)]) (st2 := [ov_r 0]) (pc2 := 56) b_196_55_1 rfl rfl ?_
          refine ov_getf (v := ov_r 14) d_196_56 fl_OF_39 (zb_0 I) (zs_0 I) (congrArg ov_r (rg_0_4 I)) ?_
          refine ov_blk (ls2 := [(0, ov_r 0), (1, ov_i m), (2, ov_i b)]) (st2 := [ov_i m, ov_r 14]) (pc2 := 60) b_196_59_1 rfl rfl ?_
          refine ov_aald d_196_60 (zb_14 I) (zs_14 I) (by omega) ?_
          have me5 : m = 0 ∨ m = 1 ∨ m = 2 ∨ m = 3 := by omega
          have ne5 := ra_14 I m
          rcases me5 with e5 | e5 | e5 | e5
          · have re5 : h 14 m = 15 := by omega
            rw [re5]
            show ov_R u d ov_m196 61 [(0, ov_r 0), (1, ov_i m), (2, ov_i b)] [ov_r 15] z h (P_OF_mark_0 F z h m b)
            refine ov_blk (ls2 := [(0, ov_r 0), (1, ov_i m), (2, ov_i b)]) (st2 := [ov_r 0, ov_r 15]) (pc2 := 62) b_196_61_1 rfl rfl ?_
            refine ov_getf (v := ov_r 4) d_196_62 fl_OF_28 (zb_0 I) (zs_0 I) (congrArg ov_r (rg_0_2 I)) ?_
            refine ov_cV (as := [ov_r 4]) (st := []) (d2 := d - 1) d_196_65 lk_OF_322 rfl (Nat.le_of_ble_eq_true rfl) (c := 7) (zb_15 I) (zs_15 I) ⟨by decide, rfl⟩ (by omega) (c_State_copy_15_4 (d - 1) (by omega) U I (ov_kws hw (by decide +kernel))) ?_
            rintro _ z7 h8 ⟨rfl, I9, f6⟩
            show ov_R u d ov_m196 68 [(0, ov_r 0), (1, ov_i m), (2, ov_i b)] [] z7 h8 (P_OF_mark_0 F z h m b)
            have f10 : (h8 36 7) = (h 36 7) ∧ (h8 1 1) = (h 1 1) ∧ (h8 90 2) = (h 90 2) ∧ (h8 0 10) = (h 0 10) ∧ (h8 0 11) = (h 0 11) ∧ (h8 0 12) = (h 0 12) ∧ (h8 0 13) = (h 0 13) ∧ (h8 3 1) = (h 3 1) ∧ (h8 36 8) = (h 36 8) ∧ (h8 46 3) = (h 46 3) ∧ (h8 46 4) = (h 46 4) ∧ (h8 49 4) = (h 49 4) ∧ (h8 49 5) = (h 49 5) ∧ (h8 64 0) = (h 64 0) ∧ (h8 76 0) = (h 76 0) := f6
            clear f6
            refine ov_blk (ls2 := [(0, ov_r 0), (1, ov_i m), (2, ov_i b)]) (st2 := [ov_r 0]) (pc2 := 69) b_196_68_1 rfl rfl ?_
            refine ov_getf (v := ov_r 35) d_196_69 fl_OF_43 (zb_0 I9) (zs_0 I9) (congrArg ov_r (rg_0_5 I9)) ?_
            refine ov_blk (ls2 := [(0, ov_r 0), (1, ov_i m), (2, ov_i b)]) (st2 := [ov_i 1, ov_i m, ov_r 35]) (pc2 := 74) b_196_72_2 rfl rfl ?_
            refine ov_zast d_196_74 (zb_35 I9) (zs_35 I9) (by omega) (by omega) ?_
            have I11 := ua_35 (k := m) (x := 1) I9 (by omega) (hw 35 (by decide +kernel))
            refine ov_blk (ls2 := [(0, ov_r 0), (1, ov_i m), (2, ov_i b)]) (st2 := [ov_i 1]) (pc2 := 76) b_196_75_1 rfl rfl ?_
            exact ov_retz (st := []) d_196_76 rfl (by omega) ⟨_, rfl, I11, (by show (1 = 0 ∨ 1 = 1) ∧ (h8 36 7) = (h 36 7) ∧ (h8 1 1) = (h 1 1) ∧ (h8 90 2) = (h 90 2) ∧ (h8 0 10) = (h 0 10) ∧ (h8 0 11) = (h 0 11) ∧ (h8 0 12) = (h 0 12) ∧ (h8 0 13) = (h 0 13) ∧ (h8 3 1) = (h 3 1) ∧ (h8 36 8) = (h 36 8) ∧ (h8 46 3) = (h 46 3) ∧ (h8 46 4) = (h 46 4) ∧ (h8 49 4) = (h 49 4) ∧ (h8 49 5) = (h 49 5) ∧ (h8 64 0) = (h 64 0) ∧ (h8 76 0) = (h 76 0); omega)⟩
          · have re5 : h 14 m = 20 := by omega
            rw [re5]
            show ov_R u d ov_m196 61 [(0, ov_r 0), (1, ov_i m), (2, ov_i b)] [ov_r 20] z h (P_OF_mark_0 F z h m b)
            refine ov_blk (ls2 := [(0, ov_r 0), (1, ov_i m), (2, ov_i b)]) (st2 := [ov_r 0, ov_r 20]) (pc2 := 62) b_196_61_1 rfl rfl ?_
            refine ov_getf (v := ov_r 4) d_196_62 fl_OF_28 (zb_0 I) (zs_0 I) (congrArg ov_r (rg_0_2 I)) ?_
            refine ov_cV (as := [ov_r 4]) (st := []) (d2 := d - 1) d_196_65 lk_OF_322 rfl (Nat.le_of_ble_eq_true rfl) (c := 7) (zb_20 I) (zs_20 I) ⟨by decide, rfl⟩ (by omega) (c_State_copy_20_4 (d - 1) (by omega) U I (ov_kws hw (by decide +kernel))) ?_
            rintro _ z13 h14 ⟨rfl, I15, f12⟩
            show ov_R u d ov_m196 68 [(0, ov_r 0), (1, ov_i m), (2, ov_i b)] [] z13 h14 (P_OF_mark_0 F z h m b)
            have f16 : (h14 36 7) = (h 36 7) ∧ (h14 1 1) = (h 1 1) ∧ (h14 90 2) = (h 90 2) ∧ (h14 0 10) = (h 0 10) ∧ (h14 0 11) = (h 0 11) ∧ (h14 0 12) = (h 0 12) ∧ (h14 0 13) = (h 0 13) ∧ (h14 3 1) = (h 3 1) ∧ (h14 36 8) = (h 36 8) ∧ (h14 46 3) = (h 46 3) ∧ (h14 46 4) = (h 46 4) ∧ (h14 49 4) = (h 49 4) ∧ (h14 49 5) = (h 49 5) ∧ (h14 64 0) = (h 64 0) ∧ (h14 76 0) = (h 76 0) := f12
            clear f12
            refine ov_blk (ls2 := [(0, ov_r 0), (1, ov_i m), (2, ov_i b)]) (st2 := [ov_r 0]) (pc2 := 69) b_196_68_1 rfl rfl ?_
            refine ov_getf (v := ov_r 35) d_196_69 fl_OF_43 (zb_0 I15) (zs_0 I15) (congrArg ov_r (rg_0_5 I15)) ?_
            refine ov_blk (ls2 := [(0, ov_r 0), (1, ov_i m), (2, ov_i b)]) (st2 := [ov_i 1, ov_i m, ov_r 35]) (pc2 := 74) b_196_72_2 rfl rfl ?_
            refine ov_zast d_196_74 (zb_35 I15) (zs_35 I15) (by omega) (by omega) ?_
            have I17 := ua_35 (k := m) (x := 1) I15 (by omega) (hw 35 (by decide +kernel))
            refine ov_blk (ls2 := [(0, ov_r 0), (1, ov_i m), (2, ov_i b)]) (st2 := [ov_i 1]) (pc2 := 76) b_196_75_1 rfl rfl ?_
            exact ov_retz (st := []) d_196_76 rfl (by omega) ⟨_, rfl, I17, (by show (1 = 0 ∨ 1 = 1) ∧ (h14 36 7) = (h 36 7) ∧ (h14 1 1) = (h 1 1) ∧ (h14 90 2) = (h 90 2) ∧ (h14 0 10) = (h 0 10) ∧ (h14 0 11) = (h 0 11) ∧ (h14 0 12) = (h 0 12) ∧ (h14 0 13) = (h 0 13) ∧ (h14 3 1) = (h 3 1) ∧ (h14 36 8) = (h 36 8) ∧ (h14 46 3) = (h 46 3) ∧ (h14 46 4) = (h 46 4) ∧ (h14 49 4) = (h 49 4) ∧ (h14 49 5) = (h 49 5) ∧ (h14 64 0) = (h 64 0) ∧ (h14 76 0) = (h 76 0); omega)⟩
          · have re5 : h 14 m = 25 := by omega
            rw [re5]
            show ov_R u d ov_m196 61 [(0, ov_r 0), (1, ov_i m), (2, ov_i b)] [ov_r 25] z h (P_OF_mark_0 F z h m b)
            refine ov_blk (ls2 := [(0, ov_r 0), (1, ov_i m), (2, ov_i b)]) (st2 := [ov_r 0, ov_r 25]) (pc2 := 62) b_196_61_1 rfl rfl ?_
            refine ov_getf (v := ov_r 4) d_196_62 fl_OF_28 (zb_0 I) (zs_0 I) (congrArg ov_r (rg_0_2 I)) ?_
            refine ov_cV (as := [ov_r 4]) (st := []) (d2 := d - 1) d_196_65 lk_OF_322 rfl (Nat.le_of_ble_eq_true rfl) (c := 7) (zb_25 I) (zs_25 I) ⟨by decide, rfl⟩ (by omega) (c_State_copy_25_4 (d - 1) (by omega) U I (ov_kws hw (by decide +kernel))) ?_
            rintro _ z19 h20 ⟨rfl, I21, f18⟩
            show ov_R u d ov_m196 68 [(0, ov_r 0), (1, ov_i m), (2, ov_i b)] [] z19 h20 (P_OF_mark_0 F z h m b)
            have f22 : (h20 36 7) = (h 36 7) ∧ (h20 1 1) = (h 1 1) ∧ (h20 90 2) = (h 90 2) ∧ (h20 0 10) = (h 0 10) ∧ (h20 0 11) = (h 0 11) ∧ (h20 0 12) = (h 0 12) ∧ (h20 0 13) = (h 0 13) ∧ (h20 3 1) = (h 3 1) ∧ (h20 36 8) = (h 36 8) ∧ (h20 46 3) = (h 46 3) ∧ (h20 46 4) = (h 46 4) ∧ (h20 49 4) = (h 49 4) ∧ (h20 49 5) = (h 49 5) ∧ (h20 64 0) = (h 64 0) ∧ (h20 76 0) = (h 76 0) := f18
            clear f18
            refine ov_blk (ls2 := [(0, ov_r 0), (1, ov_i m), (2, ov_i b)]) (st2 := [ov_r 0]) (pc2 := 69) b_196_68_1 rfl rfl ?_
            refine ov_getf (v := ov_r 35) d_196_69 fl_OF_43 (zb_0 I21) (zs_0 I21) (congrArg ov_r (rg_0_5 I21)) ?_
            refine ov_blk (ls2 := [(0, ov_r 0), (1, ov_i m), (2, ov_i b)]) (st2 := [ov_i 1, ov_i m, ov_r 35]) (pc2 := 74) b_196_72_2 rfl rfl ?_
            refine ov_zast d_196_74 (zb_35 I21) (zs_35 I21) (by omega) (by omega) ?_
            have I23 := ua_35 (k := m) (x := 1) I21 (by omega) (hw 35 (by decide +kernel))
            refine ov_blk (ls2 := [(0, ov_r 0), (1, ov_i m), (2, ov_i b)]) (st2 := [ov_i 1]) (pc2 := 76) b_196_75_1 rfl rfl ?_
            exact ov_retz (st := []) d_196_76 rfl (by omega) ⟨_, rfl, I23, (by show (1 = 0 ∨ 1 = 1) ∧ (h20 36 7) = (h 36 7) ∧ (h20 1 1) = (h 1 1) ∧ (h20 90 2) = (h 90 2) ∧ (h20 0 10) = (h 0 10) ∧ (h20 0 11) = (h 0 11) ∧ (h20 0 12) = (h 0 12) ∧ (h20 0 13) = (h 0 13) ∧ (h20 3 1) = (h 3 1) ∧ (h20 36 8) = (h 36 8) ∧ (h20 46 3) = (h 46 3) ∧ (h20 46 4) = (h 46 4) ∧ (h20 49 4) = (h 49 4) ∧ (h20 49 5) = (h 49 5) ∧ (h20 64 0) = (h 64 0) ∧ (h20 76 0) = (h 76 0); omega)⟩
          · have re5 : h 14 m = 30 := by omega
            rw [re5]
            show ov_R u d ov_m196 61 [(0, ov_r 0), (1, ov_i m), (2, ov_i b)] [ov_r 30] z h (P_OF_mark_0 F z h m b)
            refine ov_blk (ls2 := [(0, ov_r 0), (1, ov_i m), (2, ov_i b)]) (st2 := [ov_r 0, ov_r 30]) (pc2 := 62) b_196_61_1 rfl rfl ?_
            refine ov_getf (v := ov_r 4) d_196_62 fl_OF_28 (zb_0 I) (zs_0 I) (congrArg ov_r (rg_0_2 I)) ?_
            refine ov_cV (as := [ov_r 4]) (st := []) (d2 := d - 1) d_196_65 lk_OF_322 rfl (Nat.le_of_ble_eq_true rfl) (c := 7) (zb_30 I) (zs_30 I) ⟨by decide, rfl⟩ (by omega) (c_State_copy_30_4 (d - 1) (by omega) U I (ov_kws hw (by decide +kernel))) ?_
            rintro _ z25 h26 ⟨rfl, I27, f24⟩
            show ov_R u d ov_m196 68 [(0, ov_r 0), (1, ov_i m), (2, ov_i b)] [] z25 h26 (P_OF_mark_0 F z h m b)
            have f28 : (h26 36 7) = (h 36 7) ∧ (h26 1 1) = (h 1 1) ∧ (h26 90 2) = (h 90 2) ∧ (h26 0 10) = (h 0 10) ∧ (h26 0 11) = (h 0 11) ∧ (h26 0 12) = (h 0 12) ∧ (h26 0 13) = (h 0 13) ∧ (h26 3 1) = (h 3 1) ∧ (h26 36 8) = (h 36 8) ∧ (h26 46 3) = (h 46 3) ∧ (h26 46 4) = (h 46 4) ∧ (h26 49 4) = (h 49 4) ∧ (h26 49 5) = (h 49 5) ∧ (h26 64 0) = (h 64 0) ∧ (h26 76 0) = (h 76 0) := f24
            clear f24
            refine ov_blk (ls2 := [(0, ov_r 0), (1, ov_i m), (2, ov_i b)]) (st2 := [ov_r 0]) (pc2 := 69) b_196_68_1 rfl rfl ?_
            refine ov_getf (v := ov_r 35) d_196_69 fl_OF_43 (zb_0 I27) (zs_0 I27) (congrArg ov_r (rg_0_5 I27)) ?_
            refine ov_blk (ls2 := [(0, ov_r 0), (1, ov_i m), (2, ov_i b)]) (st2 := [ov_i 1, ov_i m, ov_r 35]) (pc2 := 74) b_196_72_2 rfl rfl ?_
            refine ov_zast d_196_74 (zb_35 I27) (zs_35 I27) (by omega) (by omega) ?_
            have I29 := ua_35 (k := m) (x := 1) I27 (by omega) (hw 35 (by decide +kernel))
            refine ov_blk (ls2 := [(0, ov_r 0), (1, ov_i m), (2, ov_i b)]) (st2 := [ov_i 1]) (pc2 := 76) b_196_75_1 rfl rfl ?_
            exact ov_retz (st := []) d_196_76 rfl (by omega) ⟨_, rfl, I29, (by show (1 = 0 ∨ 1 = 1) ∧ (h26 36 7) = (h 36 7) ∧ (h26 1 1) = (h 1 1) ∧ (h26 90 2) = (h 90 2) ∧ (h26 0 10) = (h 0 10) ∧ (h26 0 11) = (h 0 11) ∧ (h26 0 12) = (h 0 12) ∧ (h26 0 13) = (h 0 13) ∧ (h26 3 1) = (h 3 1) ∧ (h26 36 8) = (h 36 8) ∧ (h26 46 3) = (h 46 3) ∧ (h26 46 4) = (h 46 4) ∧ (h26 49 4) = (h 49 4) ∧ (h26 49 5) = (h 49 5) ∧ (h26 64 0) = (h 64 0) ∧ (h26 76 0) = (h 76 0); omega)⟩
        · skip
          refine ov_blk (ls2 := [(0, ov_r 0), (1, ov_i m), (2, ov_i b)]) (st2 := [ov_r 0]) (pc2 := 33) b_196_32_1 rfl rfl ?_
          refine ov_getf (v := ov_r 4) d_196_33 fl_OF_28 (zb_0 I) (zs_0 I) (congrArg ov_r (rg_0_2 I)) ?_
          refine ov_blk (ls2 := [(0, ov_r 0), (1, ov_i m), (2, ov_i b)]) (st2 := [ov_r 0, ov_r 4]) (pc2 := 37) b_196_36_1 rfl rfl ?_
          refine ov_getf (v := ov_r 14) d_196_37 fl_OF_39 (zb_0 I) (zs_0 I) (congrArg ov_r (rg_0_4 I)) ?_
          refine ov_blk (ls2 := [(0, ov_r 0), (1, ov_i m), (2, ov_i b)]) (st2 := [ov_i m, ov_r 14, ov_r 4]) (pc2 := 41) b_196_40_1 rfl rfl ?_
          refine ov_aald d_196_41 (zb_14 I) (zs_14 I) (by omega) ?_
          have me30 : m = 0 ∨ m = 1 ∨ m = 2 ∨ m = 3 := by omega
          have ne30 := ra_14 I m
          rcases me30 with e30 | e30 | e30 | e30
          · have re30 : h 14 m = 15 := by omega
            rw [re30]
            show ov_R u d ov_m196 42 [(0, ov_r 0), (1, ov_i m), (2, ov_i b)] [ov_r 15, ov_r 4] z h (P_OF_mark_0 F z h m b)
            refine ov_cV (as := [ov_r 15]) (st := []) (d2 := d - 1) d_196_42 lk_OF_322 rfl (Nat.le_of_ble_eq_true rfl) (c := 7) (zb_4 I) (zs_4 I) ⟨by decide, rfl⟩ (by omega) (c_State_copy_4_15 (d - 1) (by omega) U I (ov_kws hw (by decide +kernel))) ?_
            rintro _ z32 h33 ⟨rfl, I34, f31⟩
            show ov_R u d ov_m196 45 [(0, ov_r 0), (1, ov_i m), (2, ov_i b)] [] z32 h33 (P_OF_mark_0 F z h m b)
            have f35 : (h33 36 7) = (h 36 7) ∧ (h33 1 1) = (h 1 1) ∧ (h33 90 2) = (h 90 2) ∧ (h33 0 10) = (h 0 10) ∧ (h33 0 11) = (h 0 11) ∧ (h33 0 12) = (h 0 12) ∧ (h33 0 13) = (h 0 13) ∧ (h33 3 1) = (h 3 1) ∧ (h33 36 8) = (h 36 8) ∧ (h33 46 3) = (h 46 3) ∧ (h33 46 4) = (h 46 4) ∧ (h33 49 4) = (h 49 4) ∧ (h33 49 5) = (h 49 5) ∧ (h33 64 0) = (h 64 0) ∧ (h33 76 0) = (h 76 0) := f31
            clear f31
            refine ov_blk (ls2 := [(0, ov_r 0), (1, ov_i m), (2, ov_i b)]) (st2 := [ov_r 0]) (pc2 := 46) b_196_45_1 rfl rfl ?_
            refine ov_getf (v := ov_r 9) d_196_46 fl_OF_35 (zb_0 I34) (zs_0 I34) (congrArg ov_r (rg_0_3 I34)) ?_
            refine ov_cV (as := []) (st := []) (d2 := d - 1) d_196_49 lk_OF_115 rfl (Nat.le_of_ble_eq_true rfl) (c := 3) (zb_9 I34) (zs_9 I34) ⟨by decide, rfl⟩ (by omega) (c_History_clear_9 (d - 1) (by omega) U I34 (ov_kws hw (by decide +kernel))) ?_
            rintro _ z37 h38 ⟨rfl, I39, f36⟩
            show ov_R u d ov_m196 52 [(0, ov_r 0), (1, ov_i m), (2, ov_i b)] [] z37 h38 (P_OF_mark_0 F z h m b)
            have f40 : (h38 36 7) = (h33 36 7) ∧ (h38 1 1) = (h33 1 1) ∧ (h38 90 2) = (h33 90 2) ∧ (h38 0 10) = (h33 0 10) ∧ (h38 0 11) = (h33 0 11) ∧ (h38 0 12) = (h33 0 12) ∧ (h38 0 13) = (h33 0 13) ∧ (h38 3 1) = (h33 3 1) ∧ (h38 36 8) = (h33 36 8) ∧ (h38 46 3) = (h33 46 3) ∧ (h38 46 4) = (h33 46 4) ∧ (h38 49 4) = (h33 49 4) ∧ (h38 49 5) = (h33 49 5) ∧ (h38 64 0) = (h33 64 0) ∧ (h38 76 0) = (h33 76 0) := f36
            clear f36
            refine ov_goto (tgt := 75) d_196_52 (by decide) ?_
            refine ov_blk (ls2 := [(0, ov_r 0), (1, ov_i m), (2, ov_i b)]) (st2 := [ov_i 1]) (pc2 := 76) b_196_75_1 rfl rfl ?_
            exact ov_retz (st := []) d_196_76 rfl (by omega) ⟨_, rfl, I39, (by show (1 = 0 ∨ 1 = 1) ∧ (h38 36 7) = (h 36 7) ∧ (h38 1 1) = (h 1 1) ∧ (h38 90 2) = (h 90 2) ∧ (h38 0 10) = (h 0 10) ∧ (h38 0 11) = (h 0 11) ∧ (h38 0 12) = (h 0 12) ∧ (h38 0 13) = (h 0 13) ∧ (h38 3 1) = (h 3 1) ∧ (h38 36 8) = (h 36 8) ∧ (h38 46 3) = (h 46 3) ∧ (h38 46 4) = (h 46 4) ∧ (h38 49 4) = (h 49 4) ∧ (h38 49 5) = (h 49 5) ∧ (h38 64 0) = (h 64 0) ∧ (h38 76 0) = (h 76 0); omega)⟩
          · have re30 : h 14 m = 20 := by omega
            rw [re30]
            show ov_R u d ov_m196 42 [(0, ov_r 0), (1, ov_i m), (2, ov_i b)] [ov_r 20, ov_r 4] z h (P_OF_mark_0 F z h m b)
            refine ov_cV (as := [ov_r 20]) (st := []) (d2 := d - 1) d_196_42 lk_OF_322 rfl (Nat.le_of_ble_eq_true rfl) (c := 7) (zb_4 I) (zs_4 I) ⟨by decide, rfl⟩ (by omega) (c_State_copy_4_20 (d - 1) (by omega) U I (ov_kws hw (by decide +kernel))) ?_
            rintro _ z42 h43 ⟨rfl, I44, f41⟩
            show ov_R u d ov_m196 45 [(0, ov_r 0), (1, ov_i m), (2, ov_i b)] [] z42 h43 (P_OF_mark_0 F z h m b)
            have f45 : (h43 36 7) = (h 36 7) ∧ (h43 1 1) = (h 1 1) ∧ (h43 90 2) = (h 90 2) ∧ (h43 0 10) = (h 0 10) ∧ (h43 0 11) = (h 0 11) ∧ (h43 0 12) = (h 0 12) ∧ (h43 0 13) = (h 0 13) ∧ (h43 3 1) = (h 3 1) ∧ (h43 36 8) = (h 36 8) ∧ (h43 46 3) = (h 46 3) ∧ (h43 46 4) = (h 46 4) ∧ (h43 49 4) = (h 49 4) ∧ (h43 49 5) = (h 49 5) ∧ (h43 64 0) = (h 64 0) ∧ (h43 76 0) = (h 76 0) := f41
            clear f41
            refine ov_blk (ls2 := [(0, ov_r 0), (1, ov_i m), (2, ov_i b)]) (st2 := [ov_r 0]) (pc2 := 46) b_196_45_1 rfl rfl ?_
            refine ov_getf (v := ov_r 9) d_196_46 fl_OF_35 (zb_0 I44) (zs_0 I44) (congrArg ov_r (rg_0_3 I44)) ?_
            refine ov_cV (as := []) (st := []) (d2 := d - 1) d_196_49 lk_OF_115 rfl (Nat.le_of_ble_eq_true rfl) (c := 3) (zb_9 I44) (zs_9 I44) ⟨by decide, rfl⟩ (by omega) (c_History_clear_9 (d - 1) (by omega) U I44 (ov_kws hw (by decide +kernel))) ?_
            rintro _ z47 h48 ⟨rfl, I49, f46⟩
            show ov_R u d ov_m196 52 [(0, ov_r 0), (1, ov_i m), (2, ov_i b)] [] z47 h48 (P_OF_mark_0 F z h m b)
            have f50 : (h48 36 7) = (h43 36 7) ∧ (h48 1 1) = (h43 1 1) ∧ (h48 90 2) = (h43 90 2) ∧ (h48 0 10) = (h43 0 10) ∧ (h48 0 11) = (h43 0 11) ∧ (h48 0 12) = (h43 0 12) ∧ (h48 0 13) = (h43 0 13) ∧ (h48 3 1) = (h43 3 1) ∧ (h48 36 8) = (h43 36 8) ∧ (h48 46 3) = (h43 46 3) ∧ (h48 46 4) = (h43 46 4) ∧ (h48 49 4) = (h43 49 4) ∧ (h48 49 5) = (h43 49 5) ∧ (h48 64 0) = (h43 64 0) ∧ (h48 76 0) = (h43 76 0) := f46
            clear f46
            refine ov_goto (tgt := 75) d_196_52 (by decide) ?_
            refine ov_blk (ls2 := [(0, ov_r 0), (1, ov_i m), (2, ov_i b)]) (st2 := [ov_i 1]) (pc2 := 76) b_196_75_1 rfl rfl ?_
            exact ov_retz (st := []) d_196_76 rfl (by omega) ⟨_, rfl, I49, (by show (1 = 0 ∨ 1 = 1) ∧ (h48 36 7) = (h 36 7) ∧ (h48 1 1) = (h 1 1) ∧ (h48 90 2) = (h 90 2) ∧ (h48 0 10) = (h 0 10) ∧ (h48 0 11) = (h 0 11) ∧ (h48 0 12) = (h 0 12) ∧ (h48 0 13) = (h 0 13) ∧ (h48 3 1) = (h 3 1) ∧ (h48 36 8) = (h 36 8) ∧ (h48 46 3) = (h 46 3) ∧ (h48 46 4) = (h 46 4) ∧ (h48 49 4) = (h 49 4) ∧ (h48 49 5) = (h 49 5) ∧ (h48 64 0) = (h 64 0) ∧ (h48 76 0) = (h 76 0); omega)⟩
          · have re30 : h 14 m = 25 := by omega
            rw [re30]
            show ov_R u d ov_m196 42 [(0, ov_r 0), (1, ov_i m), (2, ov_i b)] [ov_r 25, ov_r 4] z h (P_OF_mark_0 F z h m b)
            refine ov_cV (as := [ov_r 25]) (st := []) (d2 := d - 1) d_196_42 lk_OF_322 rfl (Nat.le_of_ble_eq_true rfl) (c := 7) (zb_4 I) (zs_4 I) ⟨by decide, rfl⟩ (by omega) (c_State_copy_4_25 (d - 1) (by omega) U I (ov_kws hw (by decide +kernel))) ?_
            rintro _ z52 h53 ⟨rfl, I54, f51⟩
            show ov_R u d ov_m196 45 [(0, ov_r 0), (1, ov_i m), (2, ov_i b)] [] z52 h53 (P_OF_mark_0 F z h m b)
            have f55 : (h53 36 7) = (h 36 7) ∧ (h53 1 1) = (h 1 1) ∧ (h53 90 2) = (h 90 2) ∧ (h53 0 10) = (h 0 10) ∧ (h53 0 11) = (h 0 11) ∧ (h53 0 12) = (h 0 12) ∧ (h53 0 13) = (h 0 13) ∧ (h53 3 1) = (h 3 1) ∧ (h53 36 8) = (h 36 8) ∧ (h53 46 3) = (h 46 3) ∧ (h53 46 4) = (h 46 4) ∧ (h53 49 4) = (h 49 4) ∧ (h53 49 5) = (h 49 5) ∧ (h53 64 0) = (h 64 0) ∧ (h53 76 0) = (h 76 0) := f51
            clear f51
            refine ov_blk (ls2 := [(0, ov_r 0), (1, ov_i m), (2, ov_i b)]) (st2 := [ov_r 0]) (pc2 := 46) b_196_45_1 rfl rfl ?_
            refine ov_getf (v := ov_r 9) d_196_46 fl_OF_35 (zb_0 I54) (zs_0 I54) (congrArg ov_r (rg_0_3 I54)) ?_
            refine ov_cV (as := []) (st := []) (d2 := d - 1) d_196_49 lk_OF_115 rfl (Nat.le_of_ble_eq_true rfl) (c := 3) (zb_9 I54) (zs_9 I54) ⟨by decide, rfl⟩ (by omega) (c_History_clear_9 (d - 1) (by omega) U I54 (ov_kws hw (by decide +kernel))) ?_
            rintro _ z57 h58 ⟨rfl, I59, f56⟩
            show ov_R u d ov_m196 52 [(0, ov_r 0), (1, ov_i m), (2, ov_i b)] [] z57 h58 (P_OF_mark_0 F z h m b)
            have f60 : (h58 36 7) = (h53 36 7) ∧ (h58 1 1) = (h53 1 1) ∧ (h58 90 2) = (h53 90 2) ∧ (h58 0 10) = (h53 0 10) ∧ (h58 0 11) = (h53 0 11) ∧ (h58 0 12) = (h53 0 12) ∧ (h58 0 13) = (h53 0 13) ∧ (h58 3 1) = (h53 3 1) ∧ (h58 36 8) = (h53 36 8) ∧ (h58 46 3) = (h53 46 3) ∧ (h58 46 4) = (h53 46 4) ∧ (h58 49 4) = (h53 49 4) ∧ (h58 49 5) = (h53 49 5) ∧ (h58 64 0) = (h53 64 0) ∧ (h58 76 0) = (h53 76 0) := f56
            clear f56
            refine ov_goto (tgt := 75) d_196_52 (by decide) ?_
            refine ov_blk (ls2 := [(0, ov_r 0), (1, ov_i m), (2, ov_i b)]) (st2 := [ov_i 1]) (pc2 := 76) b_196_75_1 rfl rfl ?_
            exact ov_retz (st := []) d_196_76 rfl (by omega) ⟨_, rfl, I59, (by show (1 = 0 ∨ 1 = 1) ∧ (h58 36 7) = (h 36 7) ∧ (h58 1 1) = (h 1 1) ∧ (h58 90 2) = (h 90 2) ∧ (h58 0 10) = (h 0 10) ∧ (h58 0 11) = (h 0 11) ∧ (h58 0 12) = (h 0 12) ∧ (h58 0 13) = (h 0 13) ∧ (h58 3 1) = (h 3 1) ∧ (h58 36 8) = (h 36 8) ∧ (h58 46 3) = (h 46 3) ∧ (h58 46 4) = (h 46 4) ∧ (h58 49 4) = (h 49 4) ∧ (h58 49 5) = (h 49 5) ∧ (h58 64 0) = (h 64 0) ∧ (h58 76 0) = (h 76 0); omega)⟩
          · have re30 : h 14 m = 30 := by omega
            rw [re30]
            show ov_R u d ov_m196 42 [(0, ov_r 0), (1, ov_i m), (2, ov_i b)] [ov_r 30, ov_r 4] z h (P_OF_mark_0 F z h m b)
            refine ov_cV (as := [ov_r 30]) (st := []) (d2 := d - 1) d_196_42 lk_OF_322 rfl (Nat.le_of_ble_eq_true rfl) (c := 7) (zb_4 I) (zs_4 I) ⟨by decide, rfl⟩ (by omega) (c_State_copy_4_30 (d - 1) (by omega) U I (ov_kws hw (by decide +kernel))) ?_
            rintro _ z62 h63 ⟨rfl, I64, f61⟩
            show ov_R u d ov_m196 45 [(0, ov_r 0), (1, ov_i m), (2, ov_i b)] [] z62 h63 (P_OF_mark_0 F z h m b)
            have f65 : (h63 36 7) = (h 36 7) ∧ (h63 1 1) = (h 1 1) ∧ (h63 90 2) = (h 90 2) ∧ (h63 0 10) = (h 0 10) ∧ (h63 0 11) = (h 0 11) ∧ (h63 0 12) = (h 0 12) ∧ (h63 0 13) = (h 0 13) ∧ (h63 3 1) = (h 3 1) ∧ (h63 36 8) = (h 36 8) ∧ (h63 46 3) = (h 46 3) ∧ (h63 46 4) = (h 46 4) ∧ (h63 49 4) = (h 49 4) ∧ (h63 49 5) = (h 49 5) ∧ (h63 64 0) = (h 64 0) ∧ (h63 76 0) = (h 76 0) := f61
            clear f61
            refine ov_blk (ls2 := [(0, ov_r 0), (1, ov_i m), (2, ov_i b)]) (st2 := [ov_r 0]) (pc2 := 46) b_196_45_1 rfl rfl ?_
            refine ov_getf (v := ov_r 9) d_196_46 fl_OF_35 (zb_0 I64) (zs_0 I64) (congrArg ov_r (rg_0_3 I64)) ?_
            refine ov_cV (as := []) (st := []) (d2 := d - 1) d_196_49 lk_OF_115 rfl (Nat.le_of_ble_eq_true rfl) (c := 3) (zb_9 I64) (zs_9 I64) ⟨by decide, rfl⟩ (by omega) (c_History_clear_9 (d - 1) (by omega) U I64 (ov_kws hw (by decide +kernel))) ?_
            rintro _ z67 h68 ⟨rfl, I69, f66⟩
            show ov_R u d ov_m196 52 [(0, ov_r 0), (1, ov_i m), (2, ov_i b)] [] z67 h68 (P_OF_mark_0 F z h m b)
            have f70 : (h68 36 7) = (h63 36 7) ∧ (h68 1 1) = (h63 1 1) ∧ (h68 90 2) = (h63 90 2) ∧ (h68 0 10) = (h63 0 10) ∧ (h68 0 11) = (h63 0 11) ∧ (h68 0 12) = (h63 0 12) ∧ (h68 0 13) = (h63 0 13) ∧ (h68 3 1) = (h63 3 1) ∧ (h68 36 8) = (h63 36 8) ∧ (h68 46 3) = (h63 46 3) ∧ (h68 46 4) = (h63 46 4) ∧ (h68 49 4) = (h63 49 4) ∧ (h68 49 5) = (h63 49 5) ∧ (h68 64 0) = (h63 64 0) ∧ (h68 76 0) = (h63 76 0) := f66
            clear f66
            refine ov_goto (tgt := 75) d_196_52 (by decide) ?_
            refine ov_blk (ls2 := [(0, ov_r 0), (1, ov_i m), (2, ov_i b)]) (st2 := [ov_i 1]) (pc2 := 76) b_196_75_1 rfl rfl ?_
            exact ov_retz (st := []) d_196_76 rfl (by omega) ⟨_, rfl, I69, (by show (1 = 0 ∨ 1 = 1) ∧ (h68 36 7) = (h 36 7) ∧ (h68 1 1) = (h 1 1) ∧ (h68 90 2) = (h 90 2) ∧ (h68 0 10) = (h 0 10) ∧ (h68 0 11) = (h 0 11) ∧ (h68 0 12) = (h 0 12) ∧ (h68 0 13) = (h 0 13) ∧ (h68 3 1) = (h 3 1) ∧ (h68 36 8) = (h 36 8) ∧ (h68 46 3) = (h 46 3) ∧ (h68 46 4) = (h 46 4) ∧ (h68 49 4) = (h 49 4) ∧ (h68 49 5) = (h 49 5) ∧ (h68 64 0) = (h 64 0) ∧ (h68 76 0) = (h 76 0); omega)⟩
      · skip
        refine ov_blk (ls2 := [(0, ov_r 0), (1, ov_i m), (2, ov_i b)]) (st2 := [ov_r 0]) (pc2 := 18) b_196_17_1 rfl rfl ?_
        refine ov_getf (v := ov_r 35) d_196_18 fl_OF_43 (zb_0 I) (zs_0 I) (congrArg ov_r (rg_0_5 I)) ?_
        refine ov_blk (ls2 := [(0, ov_r 0), (1, ov_i m), (2, ov_i b)]) (st2 := [ov_i m, ov_r 35]) (pc2 := 22) b_196_21_1 rfl rfl ?_
        refine ov_zald d_196_22 (zb_35 I) (zs_35 I) (by omega) ?_
        have g71 := ra_35 I m
        refine ov_ifne (tgt := 28) d_196_23 (by decide) (by omega) (fun c72 => ?_) (fun c72 => ?_)
        · skip
          refine ov_blk (ls2 := [(0, ov_r 0), (1, ov_i m), (2, ov_i b)]) (st2 := [ov_i b]) (pc2 := 29) b_196_28_1 rfl rfl ?_
          refine ov_ifeq (tgt := 55) d_196_29 (by decide) (by omega) (fun c73 => ?_) (fun c73 => ?_)
          · skip
            refine ov_blk (ls2 := [(0, ov_r 0), (1, ov_i m), (2, ov_i b)]) (st2 := [ov_r 0]) (pc2 := 56) b_196_55_1 rfl rfl ?_
            refine ov_getf (v := ov_r 14) d_196_56 fl_OF_39 (zb_0 I) (zs_0 I) (congrArg ov_r (rg_0_4 I)) ?_
            refine ov_blk (ls2 := [(0, ov_r 0), (1, ov_i m), (2, ov_i b)]) (st2 := [ov_i m, ov_r 14]) (pc2 := 60) b_196_59_1 rfl rfl ?_
            refine ov_aald d_196_60 (zb_14 I) (zs_14 I) (by omega) ?_
            have me74 : m = 0 ∨ m = 1 ∨ m = 2 ∨ m = 3 := by omega
            have ne74 := ra_14 I m
            rcases me74 with e74 | e74 | e74 | e74
            · have re74 : h 14 m = 15 := by omega
              rw [re74]
              show ov_R u d ov_m196 61 [(0, ov_r 0), (1, ov_i m), (2, ov_i b)] [ov_r 15] z h (P_OF_mark_0 F z h m b)
              refine ov_blk (ls2 := [(0, ov_r 0), (1, ov_i m), (2, ov_i b)]) (st2 := [ov_r 0, ov_r 15]) (pc2 := 62) b_196_61_1 rfl rfl ?_
              refine ov_getf (v := ov_r 4) d_196_62 fl_OF_28 (zb_0 I) (zs_0 I) (congrArg ov_r (rg_0_2 I)) ?_
              refine ov_cV (as := [ov_r 4]) (st := []) (d2 := d - 1) d_196_65 lk_OF_322 rfl (Nat.le_of_ble_eq_true rfl) (c := 7) (zb_15 I) (zs_15 I) ⟨by decide, rfl⟩ (by omega) (c_State_copy_15_4 (d - 1) (by omega) U I (ov_kws hw (by decide +kernel))) ?_
              rintro _ z76 h77 ⟨rfl, I78, f75⟩
              show ov_R u d ov_m196 68 [(0, ov_r 0), (1, ov_i m), (2, ov_i b)] [] z76 h77 (P_OF_mark_0 F z h m b)
              have f79 : (h77 36 7) = (h 36 7) ∧ (h77 1 1) = (h 1 1) ∧ (h77 90 2) = (h 90 2) ∧ (h77 0 10) = (h 0 10) ∧ (h77 0 11) = (h 0 11) ∧ (h77 0 12) = (h 0 12) ∧ (h77 0 13) = (h 0 13) ∧ (h77 3 1) = (h 3 1) ∧ (h77 36 8) = (h 36 8) ∧ (h77 46 3) = (h 46 3) ∧ (h77 46 4) = (h 46 4) ∧ (h77 49 4) = (h 49 4) ∧ (h77 49 5) = (h 49 5) ∧ (h77 64 0) = (h 64 0) ∧ (h77 76 0) = (h 76 0) := f75
              clear f75
              refine ov_blk (ls2 := [(0, ov_r 0), (1, ov_i m), (2, ov_i b)]) (st2 := [ov_r 0]) (pc2 := 69) b_196_68_1 rfl rfl ?_
              refine ov_getf (v := ov_r 35) d_196_69 fl_OF_43 (zb_0 I78) (zs_0 I78) (congrArg ov_r (rg_0_5 I78)) ?_
              refine ov_blk (ls2 := [(0, ov_r 0), (1, ov_i m), (2, ov_i b)]) (st2 := [ov_i 1, ov_i m, ov_r 35]) (pc2 := 74) b_196_72_2 rfl rfl ?_
              refine ov_zast d_196_74 (zb_35 I78) (zs_35 I78) (by omega) (by omega) ?_
              have I80 := ua_35 (k := m) (x := 1) I78 (by omega) (hw 35 (by decide +kernel))
              refine ov_blk (ls2 := [(0, ov_r 0), (1, ov_i m), (2, ov_i b)]) (st2 := [ov_i 1]) (pc2 := 76) b_196_75_1 rfl rfl ?_
              exact ov_retz (st := []) d_196_76 rfl (by omega) ⟨_, rfl, I80, (by show (1 = 0 ∨ 1 = 1) ∧ (h77 36 7) = (h 36 7) ∧ (h77 1 1) = (h 1 1) ∧ (h77 90 2) = (h 90 2) ∧ (h77 0 10) = (h 0 10) ∧ (h77 0 11) = (h 0 11) ∧ (h77 0 12) = (h 0 12) ∧ (h77 0 13) = (h 0 13) ∧ (h77 3 1) = (h 3 1) ∧ (h77 36 8) = (h 36 8) ∧ (h77 46 3) = (h 46 3) ∧ (h77 46 4) = (h 46 4) ∧ (h77 49 4) = (h 49 4) ∧ (h77 49 5) = (h 49 5) ∧ (h77 64 0) = (h 64 0) ∧ (h77 76 0) = (h 76 0); omega)⟩
            · have re74 : h 14 m = 20 := by omega
              rw [re74]
              show ov_R u d ov_m196 61 [(0, ov_r 0), (1, ov_i m), (2, ov_i b)] [ov_r 20] z h (P_OF_mark_0 F z h m b)
              refine ov_blk (ls2 := [(0, ov_r 0), (1, ov_i m), (2, ov_i b)]) (st2 := [ov_r 0, ov_r 20]) (pc2 := 62) b_196_61_1 rfl rfl ?_
              refine ov_getf (v := ov_r 4) d_196_62 fl_OF_28 (zb_0 I) (zs_0 I) (congrArg ov_r (rg_0_2 I)) ?_
              refine ov_cV (as := [ov_r 4]) (st := []) (d2 := d - 1) d_196_65 lk_OF_322 rfl (Nat.le_of_ble_eq_true rfl) (c := 7) (zb_20 I) (zs_20 I) ⟨by decide, rfl⟩ (by omega) (c_State_copy_20_4 (d - 1) (by omega) U I (ov_kws hw (by decide +kernel))) ?_
              rintro _ z82 h83 ⟨rfl, I84, f81⟩
              show ov_R u d ov_m196 68 [(0, ov_r 0), (1, ov_i m), (2, ov_i b)] [] z82 h83 (P_OF_mark_0 F z h m b)
              have f85 : (h83 36 7) = (h 36 7) ∧ (h83 1 1) = (h 1 1) ∧ (h83 90 2) = (h 90 2) ∧ (h83 0 10) = (h 0 10) ∧ (h83 0 11) = (h 0 11) ∧ (h83 0 12) = (h 0 12) ∧ (h83 0 13) = (h 0 13) ∧ (h83 3 1) = (h 3 1) ∧ (h83 36 8) = (h 36 8) ∧ (h83 46 3) = (h 46 3) ∧ (h83 46 4) = (h 46 4) ∧ (h83 49 4) = (h 49 4) ∧ (h83 49 5) = (h 49 5) ∧ (h83 64 0) = (h 64 0) ∧ (h83 76 0) = (h 76 0) := f81
              clear f81
              refine ov_blk (ls2 := [(0, ov_r 0), (1, ov_i m), (2, ov_i b)]) (st2 := [ov_r 0]) (pc2 := 69) b_196_68_1 rfl rfl ?_
              refine ov_getf (v := ov_r 35) d_196_69 fl_OF_43 (zb_0 I84) (zs_0 I84) (congrArg ov_r (rg_0_5 I84)) ?_
              refine ov_blk (ls2 := [(0, ov_r 0), (1, ov_i m), (2, ov_i b)]) (st2 := [ov_i 1, ov_i m, ov_r 35]) (pc2 := 74) b_196_72_2 rfl rfl ?_
              refine ov_zast d_196_74 (zb_35 I84) (zs_35 I84) (by omega) (by omega) ?_
              have I86 := ua_35 (k := m) (x := 1) I84 (by omega) (hw 35 (by decide +kernel))
              refine ov_blk (ls2 := [(0, ov_r 0), (1, ov_i m), (2, ov_i b)]) (st2 := [ov_i 1]) (pc2 := 76) b_196_75_1 rfl rfl ?_
              exact ov_retz (st := []) d_196_76 rfl (by omega) ⟨_, rfl, I86, (by show (1 = 0 ∨ 1 = 1) ∧ (h83 36 7) = (h 36 7) ∧ (h83 1 1) = (h 1 1) ∧ (h83 90 2) = (h 90 2) ∧ (h83 0 10) = (h 0 10) ∧ (h83 0 11) = (h 0 11) ∧ (h83 0 12) = (h 0 12) ∧ (h83 0 13) = (h 0 13) ∧ (h83 3 1) = (h 3 1) ∧ (h83 36 8) = (h 36 8) ∧ (h83 46 3) = (h 46 3) ∧ (h83 46 4) = (h 46 4) ∧ (h83 49 4) = (h 49 4) ∧ (h83 49 5) = (h 49 5) ∧ (h83 64 0) = (h 64 0) ∧ (h83 76 0) = (h 76 0); omega)⟩
            · have re74 : h 14 m = 25 := by omega
              rw [re74]
              show ov_R u d ov_m196 61 [(0, ov_r 0), (1, ov_i m), (2, ov_i b)] [ov_r 25] z h (P_OF_mark_0 F z h m b)
              refine ov_blk (ls2 := [(0, ov_r 0), (1, ov_i m), (2, ov_i b)]) (st2 := [ov_r 0, ov_r 25]) (pc2 := 62) b_196_61_1 rfl rfl ?_
              refine ov_getf (v := ov_r 4) d_196_62 fl_OF_28 (zb_0 I) (zs_0 I) (congrArg ov_r (rg_0_2 I)) ?_
              refine ov_cV (as := [ov_r 4]) (st := []) (d2 := d - 1) d_196_65 lk_OF_322 rfl (Nat.le_of_ble_eq_true rfl) (c := 7) (zb_25 I) (zs_25 I) ⟨by decide, rfl⟩ (by omega) (c_State_copy_25_4 (d - 1) (by omega) U I (ov_kws hw (by decide +kernel))) ?_
              rintro _ z88 h89 ⟨rfl, I90, f87⟩
              show ov_R u d ov_m196 68 [(0, ov_r 0), (1, ov_i m), (2, ov_i b)] [] z88 h89 (P_OF_mark_0 F z h m b)
              have f91 : (h89 36 7) = (h 36 7) ∧ (h89 1 1) = (h 1 1) ∧ (h89 90 2) = (h 90 2) ∧ (h89 0 10) = (h 0 10) ∧ (h89 0 11) = (h 0 11) ∧ (h89 0 12) = (h 0 12) ∧ (h89 0 13) = (h 0 13) ∧ (h89 3 1) = (h 3 1) ∧ (h89 36 8) = (h 36 8) ∧ (h89 46 3) = (h 46 3) ∧ (h89 46 4) = (h 46 4) ∧ (h89 49 4) = (h 49 4) ∧ (h89 49 5) = (h 49 5) ∧ (h89 64 0) = (h 64 0) ∧ (h89 76 0) = (h 76 0) := f87
              clear f87
              refine ov_blk (ls2 := [(0, ov_r 0), (1, ov_i m), (2, ov_i b)]) (st2 := [ov_r 0]) (pc2 := 69) b_196_68_1 rfl rfl ?_
              refine ov_getf (v := ov_r 35) d_196_69 fl_OF_43 (zb_0 I90) (zs_0 I90) (congrArg ov_r (rg_0_5 I90)) ?_
              refine ov_blk (ls2 := [(0, ov_r 0), (1, ov_i m), (2, ov_i b)]) (st2 := [ov_i 1, ov_i m, ov_r 35]) (pc2 := 74) b_196_72_2 rfl rfl ?_
              refine ov_zast d_196_74 (zb_35 I90) (zs_35 I90) (by omega) (by omega) ?_
              have I92 := ua_35 (k := m) (x := 1) I90 (by omega) (hw 35 (by decide +kernel))
              refine ov_blk (ls2 := [(0, ov_r 0), (1, ov_i m), (2, ov_i b)]) (st2 := [ov_i 1]) (pc2 := 76) b_196_75_1 rfl rfl ?_
              exact ov_retz (st := []) d_196_76 rfl (by omega) ⟨_, rfl, I92, (by show (1 = 0 ∨ 1 = 1) ∧ (h89 36 7) = (h 36 7) ∧ (h89 1 1) = (h 1 1) ∧ (h89 90 2) = (h 90 2) ∧ (h89 0 10) = (h 0 10) ∧ (h89 0 11) = (h 0 11) ∧ (h89 0 12) = (h 0 12) ∧ (h89 0 13) = (h 0 13) ∧ (h89 3 1) = (h 3 1) ∧ (h89 36 8) = (h 36 8) ∧ (h89 46 3) = (h 46 3) ∧ (h89 46 4) = (h 46 4) ∧ (h89 49 4) = (h 49 4) ∧ (h89 49 5) = (h 49 5) ∧ (h89 64 0) = (h 64 0) ∧ (h89 76 0) = (h 76 0); omega)⟩
            · have re74 : h 14 m = 30 := by omega
              rw [re74]
              show ov_R u d ov_m196 61 [(0, ov_r 0), (1, ov_i m), (2, ov_i b)] [ov_r 30] z h (P_OF_mark_0 F z h m b)
              refine ov_blk (ls2 := [(0, ov_r 0), (1, ov_i m), (2, ov_i b)]) (st2 := [ov_r 0, ov_r 30]) (pc2 := 62) b_196_61_1 rfl rfl ?_
              refine ov_getf (v := ov_r 4) d_196_62 fl_OF_28 (zb_0 I) (zs_0 I) (congrArg ov_r (rg_0_2 I)) ?_
              refine ov_cV (as := [ov_r 4]) (st := []) (d2 := d - 1) d_196_65 lk_OF_322 rfl (Nat.le_of_ble_eq_true rfl) (c := 7) (zb_30 I) (zs_30 I) ⟨by decide, rfl⟩ (by omega) (c_State_copy_30_4 (d - 1) (by omega) U I (ov_kws hw (by decide +kernel))) ?_
              rintro _ z94 h95 ⟨rfl, I96, f93⟩
              show ov_R u d ov_m196 68 [(0, ov_r 0), (1, ov_i m), (2, ov_i b)] [] z94 h95 (P_OF_mark_0 F z h m b)
              have f97 : (h95 36 7) = (h 36 7) ∧ (h95 1 1) = (h 1 1) ∧ (h95 90 2) = (h 90 2) ∧ (h95 0 10) = (h 0 10) ∧ (h95 0 11) = (h 0 11) ∧ (h95 0 12) = (h 0 12) ∧ (h95 0 13) = (h 0 13) ∧ (h95 3 1) = (h 3 1) ∧ (h95 36 8) = (h 36 8) ∧ (h95 46 3) = (h 46 3) ∧ (h95 46 4) = (h 46 4) ∧ (h95 49 4) = (h 49 4) ∧ (h95 49 5) = (h 49 5) ∧ (h95 64 0) = (h 64 0) ∧ (h95 76 0) = (h 76 0) := f93
              clear f93
              refine ov_blk (ls2 := [(0, ov_r 0), (1, ov_i m), (2, ov_i b)]) (st2 := [ov_r 0]) (pc2 := 69) b_196_68_1 rfl rfl ?_
              refine ov_getf (v := ov_r 35) d_196_69 fl_OF_43 (zb_0 I96) (zs_0 I96) (congrArg ov_r (rg_0_5 I96)) ?_
              refine ov_blk (ls2 := [(0, ov_r 0), (1, ov_i m), (2, ov_i b)]) (st2 := [ov_i 1, ov_i m, ov_r 35]) (pc2 := 74) b_196_72_2 rfl rfl ?_
              refine ov_zast d_196_74 (zb_35 I96) (zs_35 I96) (by omega) (by omega) ?_
              have I98 := ua_35 (k := m) (x := 1) I96 (by omega) (hw 35 (by decide +kernel))
              refine ov_blk (ls2 := [(0, ov_r 0), (1, ov_i m), (2, ov_i b)]) (st2 := [ov_i 1]) (pc2 := 76) b_196_75_1 rfl rfl ?_
              exact ov_retz (st := []) d_196_76 rfl (by omega) ⟨_, rfl, I98, (by show (1 = 0 ∨ 1 = 1) ∧ (h95 36 7) = (h 36 7) ∧ (h95 1 1) = (h 1 1) ∧ (h95 90 2) = (h 90 2) ∧ (h95 0 10) = (h 0 10) ∧ (h95 0 11) = (h 0 11) ∧ (h95 0 12) = (h 0 12) ∧ (h95 0 13) = (h 0 13) ∧ (h95 3 1) = (h 3 1) ∧ (h95 36 8) = (h 36 8) ∧ (h95 46 3) = (h 46 3) ∧ (h95 46 4) = (h 46 4) ∧ (h95 49 4) = (h 49 4) ∧ (h95 49 5) = (h 49 5) ∧ (h95 64 0) = (h 64 0) ∧ (h95 76 0) = (h 76 0); omega)⟩
          · skip
            refine ov_blk (ls2 := [(0, ov_r 0), (1, ov_i m), (2, ov_i b)]) (st2 := [ov_r 0]) (pc2 := 33) b_196_32_1 rfl rfl ?_
            refine ov_getf (v := ov_r 4) d_196_33 fl_OF_28 (zb_0 I) (zs_0 I) (congrArg ov_r (rg_0_2 I)) ?_
            refine ov_blk (ls2 := [(0, ov_r 0), (1, ov_i m), (2, ov_i b)]) (st2 := [ov_r 0, ov_r 4]) (pc2 := 37) b_196_36_1 rfl rfl ?_
            refine ov_getf (v := ov_r 14) d_196_37 fl_OF_39 (zb_0 I) (zs_0 I) (congrArg ov_r (rg_0_4 I)) ?_
            refine ov_blk (ls2 := [(0, ov_r 0), (1, ov_i m), (2, ov_i b)]) (st2 := [ov_i m, ov_r 14, ov_r 4]) (pc2 := 41) b_196_40_1 rfl rfl ?_
            refine ov_aald d_196_41 (zb_14 I) (zs_14 I) (by omega) ?_
            have me99 : m = 0 ∨ m = 1 ∨ m = 2 ∨ m = 3 := by omega
            have ne99 := ra_14 I m
            rcases me99 with e99 | e99 | e99 | e99
            · have re99 : h 14 m = 15 := by omega
              rw [re99]
              show ov_R u d ov_m196 42 [(0, ov_r 0), (1, ov_i m), (2, ov_i b)] [ov_r 15, ov_r 4] z h (P_OF_mark_0 F z h m b)
              refine ov_cV (as := [ov_r 15]) (st := []) (d2 := d - 1) d_196_42 lk_OF_322 rfl (Nat.le_of_ble_eq_true rfl) (c := 7) (zb_4 I) (zs_4 I) ⟨by decide, rfl⟩ (by omega) (c_State_copy_4_15 (d - 1) (by omega) U I (ov_kws hw (by decide +kernel))) ?_
              rintro _ z101 h102 ⟨rfl, I103, f100⟩
              show ov_R u d ov_m196 45 [(0, ov_r 0), (1, ov_i m), (2, ov_i b)] [] z101 h102 (P_OF_mark_0 F z h m b)
              have f104 : (h102 36 7) = (h 36 7) ∧ (h102 1 1) = (h 1 1) ∧ (h102 90 2) = (h 90 2) ∧ (h102 0 10) = (h 0 10) ∧ (h102 0 11) = (h 0 11) ∧ (h102 0 12) = (h 0 12) ∧ (h102 0 13) = (h 0 13) ∧ (h102 3 1) = (h 3 1) ∧ (h102 36 8) = (h 36 8) ∧ (h102 46 3) = (h 46 3) ∧ (h102 46 4) = (h 46 4) ∧ (h102 49 4) = (h 49 4) ∧ (h102 49 5) = (h 49 5) ∧ (h102 64 0) = (h 64 0) ∧ (h102 76 0) = (h 76 0) := f100
              clear f100
              refine ov_blk (ls2 := [(0, ov_r 0), (1, ov_i m), (2, ov_i b)]) (st2 := [ov_r 0]) (pc2 := 46) b_196_45_1 rfl rfl ?_
              refine ov_getf (v := ov_r 9) d_196_46 fl_OF_35 (zb_0 I103) (zs_0 I103) (congrArg ov_r (rg_0_3 I103)) ?_
              refine ov_cV (as := []) (st := []) (d2 := d - 1) d_196_49 lk_OF_115 rfl (Nat.le_of_ble_eq_true rfl) (c := 3) (zb_9 I103) (zs_9 I103) ⟨by decide, rfl⟩ (by omega) (c_History_clear_9 (d - 1) (by omega) U I103 (ov_kws hw (by decide +kernel))) ?_
              rintro _ z106 h107 ⟨rfl, I108, f105⟩
              show ov_R u d ov_m196 52 [(0, ov_r 0), (1, ov_i m), (2, ov_i b)] [] z106 h107 (P_OF_mark_0 F z h m b)
              have f109 : (h107 36 7) = (h102 36 7) ∧ (h107 1 1) = (h102 1 1) ∧ (h107 90 2) = (h102 90 2) ∧ (h107 0 10) = (h102 0 10) ∧ (h107 0 11) = (h102 0 11) ∧ (h107 0 12) = (h102 0 12) ∧ (h107 0 13) = (h102 0 13) ∧ (h107 3 1) = (h102 3 1) ∧ (h107 36 8) = (h102 36 8) ∧ (h107 46 3) = (h102 46 3) ∧ (h107 46 4) = (h102 46 4) ∧ (h107 49 4) = (h102 49 4) ∧ (h107 49 5) = (h102 49 5) ∧ (h107 64 0) = (h102 64 0) ∧ (h107 76 0) = (h102 76 0) := f105
              clear f105
              refine ov_goto (tgt := 75) d_196_52 (by decide) ?_
              refine ov_blk (ls2 := [(0, ov_r 0), (1, ov_i m), (2, ov_i b)]) (st2 := [ov_i 1]) (pc2 := 76) b_196_75_1 rfl rfl ?_
              exact ov_retz (st := []) d_196_76 rfl (by omega) ⟨_, rfl, I108, (by show (1 = 0 ∨ 1 = 1) ∧ (h107 36 7) = (h 36 7) ∧ (h107 1 1) = (h 1 1) ∧ (h107 90 2) = (h 90 2) ∧ (h107 0 10) = (h 0 10) ∧ (h107 0 11) = (h 0 11) ∧ (h107 0 12) = (h 0 12) ∧ (h107 0 13) = (h 0 13) ∧ (h107 3 1) = (h 3 1) ∧ (h107 36 8) = (h 36 8) ∧ (h107 46 3) = (h 46 3) ∧ (h107 46 4) = (h 46 4) ∧ (h107 49 4) = (h 49 4) ∧ (h107 49 5) = (h 49 5) ∧ (h107 64 0) = (h 64 0) ∧ (h107 76 0) = (h 76 0); omega)⟩
            · have re99 : h 14 m = 20 := by omega
              rw [re99]
              show ov_R u d ov_m196 42 [(0, ov_r 0), (1, ov_i m), (2, ov_i b)] [ov_r 20, ov_r 4] z h (P_OF_mark_0 F z h m b)
              refine ov_cV (as := [ov_r 20]) (st := []) (d2 := d - 1) d_196_42 lk_OF_322 rfl (Nat.le_of_ble_eq_true rfl) (c := 7) (zb_4 I) (zs_4 I) ⟨by decide, rfl⟩ (by omega) (c_State_copy_4_20 (d - 1) (by omega) U I (ov_kws hw (by decide +kernel))) ?_
              rintro _ z111 h112 ⟨rfl, I113, f110⟩
              show ov_R u d ov_m196 45 [(0, ov_r 0), (1, ov_i m), (2, ov_i b)] [] z111 h112 (P_OF_mark_0 F z h m b)
              have f114 : (h112 36 7) = (h 36 7) ∧ (h112 1 1) = (h 1 1) ∧ (h112 90 2) = (h 90 2) ∧ (h112 0 10) = (h 0 10) ∧ (h112 0 11) = (h 0 11) ∧ (h112 0 12) = (h 0 12) ∧ (h112 0 13) = (h 0 13) ∧ (h112 3 1) = (h 3 1) ∧ (h112 36 8) = (h 36 8) ∧ (h112 46 3) = (h 46 3) ∧ (h112 46 4) = (h 46 4) ∧ (h112 49 4) = (h 49 4) ∧ (h112 49 5) = (h 49 5) ∧ (h112 64 0) = (h 64 0) ∧ (h112 76 0) = (h 76 0) := f110
              clear f110
              refine ov_blk (ls2 := [(0, ov_r 0), (1, ov_i m), (2, ov_i b)]) (st2 := [ov_r 0]) (pc2 := 46) b_196_45_1 rfl rfl ?_
              refine ov_getf (v := ov_r 9) d_196_46 fl_OF_35 (zb_0 I113) (zs_0 I113) (congrArg ov_r (rg_0_3 I113)) ?_
              refine ov_cV (as := []) (st := []) (d2 := d - 1) d_196_49 lk_OF_115 rfl (Nat.le_of_ble_eq_true rfl) (c := 3) (zb_9 I113) (zs_9 I113) ⟨by decide, rfl⟩ (by omega) (c_History_clear_9 (d - 1) (by omega) U I113 (ov_kws hw (by decide +kernel))) ?_
              rintro _ z116 h117 ⟨rfl, I118, f115⟩
              show ov_R u d ov_m196 52 [(0, ov_r 0), (1, ov_i m), (2, ov_i b)] [] z116 h117 (P_OF_mark_0 F z h m b)
              have f119 : (h117 36 7) = (h112 36 7) ∧ (h117 1 1) = (h112 1 1) ∧ (h117 90 2) = (h112 90 2) ∧ (h117 0 10) = (h112 0 10) ∧ (h117 0 11) = (h112 0 11) ∧ (h117 0 12) = (h112 0 12) ∧ (h117 0 13) = (h112 0 13) ∧ (h117 3 1) = (h112 3 1) ∧ (h117 36 8) = (h112 36 8) ∧ (h117 46 3) = (h112 46 3) ∧ (h117 46 4) = (h112 46 4) ∧ (h117 49 4) = (h112 49 4) ∧ (h117 49 5) = (h112 49 5) ∧ (h117 64 0) = (h112 64 0) ∧ (h117 76 0) = (h112 76 0) := f115
              clear f115
              refine ov_goto (tgt := 75) d_196_52 (by decide) ?_
              refine ov_blk (ls2 := [(0, ov_r 0), (1, ov_i m), (2, ov_i b)]) (st2 := [ov_i 1]) (pc2 := 76) b_196_75_1 rfl rfl ?_
              exact ov_retz (st := []) d_196_76 rfl (by omega) ⟨_, rfl, I118, (by show (1 = 0 ∨ 1 = 1) ∧ (h117 36 7) = (h 36 7) ∧ (h117 1 1) = (h 1 1) ∧ (h117 90 2) = (h 90 2) ∧ (h117 0 10) = (h 0 10) ∧ (h117 0 11) = (h 0 11) ∧ (h117 0 12) = (h 0 12) ∧ (h117 0 13) = (h 0 13) ∧ (h117 3 1) = (h 3 1) ∧ (h117 36 8) = (h 36 8) ∧ (h117 46 3) = (h 46 3) ∧ (h117 46 4) = (h 46 4) ∧ (h117 49 4) = (h 49 4) ∧ (h117 49 5) = (h 49 5) ∧ (h117 64 0) = (h 64 0) ∧ (h117 76 0) = (h 76 0); omega)⟩
            · have re99 : h 14 m = 25 := by omega
              rw [re99]
              show ov_R u d ov_m196 42 [(0, ov_r 0), (1, ov_i m), (2, ov_i b)] [ov_r 25, ov_r 4] z h (P_OF_mark_0 F z h m b)
              refine ov_cV (as := [ov_r 25]) (st := []) (d2 := d - 1) d_196_42 lk_OF_322 rfl (Nat.le_of_ble_eq_true rfl) (c := 7) (zb_4 I) (zs_4 I) ⟨by decide, rfl⟩ (by omega) (c_State_copy_4_25 (d - 1) (by omega) U I (ov_kws hw (by decide +kernel))) ?_
              rintro _ z121 h122 ⟨rfl, I123, f120⟩
              show ov_R u d ov_m196 45 [(0, ov_r 0), (1, ov_i m), (2, ov_i b)] [] z121 h122 (P_OF_mark_0 F z h m b)
              have f124 : (h122 36 7) = (h 36 7) ∧ (h122 1 1) = (h 1 1) ∧ (h122 90 2) = (h 90 2) ∧ (h122 0 10) = (h 0 10) ∧ (h122 0 11) = (h 0 11) ∧ (h122 0 12) = (h 0 12) ∧ (h122 0 13) = (h 0 13) ∧ (h122 3 1) = (h 3 1) ∧ (h122 36 8) = (h 36 8) ∧ (h122 46 3) = (h 46 3) ∧ (h122 46 4) = (h 46 4) ∧ (h122 49 4) = (h 49 4) ∧ (h122 49 5) = (h 49 5) ∧ (h122 64 0) = (h 64 0) ∧ (h122 76 0) = (h 76 0) := f120
              clear f120
              refine ov_blk (ls2 := [(0, ov_r 0), (1, ov_i m), (2, ov_i b)]) (st2 := [ov_r 0]) (pc2 := 46) b_196_45_1 rfl rfl ?_
              refine ov_getf (v := ov_r 9) d_196_46 fl_OF_35 (zb_0 I123) (zs_0 I123) (congrArg ov_r (rg_0_3 I123)) ?_
              refine ov_cV (as := []) (st := []) (d2 := d - 1) d_196_49 lk_OF_115 rfl (Nat.le_of_ble_eq_true rfl) (c := 3) (zb_9 I123) (zs_9 I123) ⟨by decide, rfl⟩ (by omega) (c_History_clear_9 (d - 1) (by omega) U I123 (ov_kws hw (by decide +kernel))) ?_
              rintro _ z126 h127 ⟨rfl, I128, f125⟩
              show ov_R u d ov_m196 52 [(0, ov_r 0), (1, ov_i m), (2, ov_i b)] [] z126 h127 (P_OF_mark_0 F z h m b)
              have f129 : (h127 36 7) = (h122 36 7) ∧ (h127 1 1) = (h122 1 1) ∧ (h127 90 2) = (h122 90 2) ∧ (h127 0 10) = (h122 0 10) ∧ (h127 0 11) = (h122 0 11) ∧ (h127 0 12) = (h122 0 12) ∧ (h127 0 13) = (h122 0 13) ∧ (h127 3 1) = (h122 3 1) ∧ (h127 36 8) = (h122 36 8) ∧ (h127 46 3) = (h122 46 3) ∧ (h127 46 4) = (h122 46 4) ∧ (h127 49 4) = (h122 49 4) ∧ (h127 49 5) = (h122 49 5) ∧ (h127 64 0) = (h122 64 0) ∧ (h127 76 0) = (h122 76 0) := f125
              clear f125
              refine ov_goto (tgt := 75) d_196_52 (by decide) ?_
              refine ov_blk (ls2 := [(0, ov_r 0), (1, ov_i m), (2, ov_i b)]) (st2 := [ov_i 1]) (pc2 := 76) b_196_75_1 rfl rfl ?_
              exact ov_retz (st := []) d_196_76 rfl (by omega) ⟨_, rfl, I128, (by show (1 = 0 ∨ 1 = 1) ∧ (h127 36 7) = (h 36 7) ∧ (h127 1 1) = (h 1 1) ∧ (h127 90 2) = (h 90 2) ∧ (h127 0 10) = (h 0 10) ∧ (h127 0 11) = (h 0 11) ∧ (h127 0 12) = (h 0 12) ∧ (h127 0 13) = (h 0 13) ∧ (h127 3 1) = (h 3 1) ∧ (h127 36 8) = (h 36 8) ∧ (h127 46 3) = (h 46 3) ∧ (h127 46 4) = (h 46 4) ∧ (h127 49 4) = (h 49 4) ∧ (h127 49 5) = (h 49 5) ∧ (h127 64 0) = (h 64 0) ∧ (h127 76 0) = (h 76 0); omega)⟩
            · have re99 : h 14 m = 30 := by omega
              rw [re99]
              show ov_R u d ov_m196 42 [(0, ov_r 0), (1, ov_i m), (2, ov_i b)] [ov_r 30, ov_r 4] z h (P_OF_mark_0 F z h m b)
              refine ov_cV (as := [ov_r 30]) (st := []) (d2 := d - 1) d_196_42 lk_OF_322 rfl (Nat.le_of_ble_eq_true rfl) (c := 7) (zb_4 I) (zs_4 I) ⟨by decide, rfl⟩ (by omega) (c_State_copy_4_30 (d - 1) (by omega) U I (ov_kws hw (by decide +kernel))) ?_
              rintro _ z131 h132 ⟨rfl, I133, f130⟩
              show ov_R u d ov_m196 45 [(0, ov_r 0), (1, ov_i m), (2, ov_i b)] [] z131 h132 (P_OF_mark_0 F z h m b)
              have f134 : (h132 36 7) = (h 36 7) ∧ (h132 1 1) = (h 1 1) ∧ (h132 90 2) = (h 90 2) ∧ (h132 0 10) = (h 0 10) ∧ (h132 0 11) = (h 0 11) ∧ (h132 0 12) = (h 0 12) ∧ (h132 0 13) = (h 0 13) ∧ (h132 3 1) = (h 3 1) ∧ (h132 36 8) = (h 36 8) ∧ (h132 46 3) = (h 46 3) ∧ (h132 46 4) = (h 46 4) ∧ (h132 49 4) = (h 49 4) ∧ (h132 49 5) = (h 49 5) ∧ (h132 64 0) = (h 64 0) ∧ (h132 76 0) = (h 76 0) := f130
              clear f130
              refine ov_blk (ls2 := [(0, ov_r 0), (1, ov_i m), (2, ov_i b)]) (st2 := [ov_r 0]) (pc2 := 46) b_196_45_1 rfl rfl ?_
              refine ov_getf (v := ov_r 9) d_196_46 fl_OF_35 (zb_0 I133) (zs_0 I133) (congrArg ov_r (rg_0_3 I133)) ?_
              refine ov_cV (as := []) (st := []) (d2 := d - 1) d_196_49 lk_OF_115 rfl (Nat.le_of_ble_eq_true rfl) (c := 3) (zb_9 I133) (zs_9 I133) ⟨by decide, rfl⟩ (by omega) (c_History_clear_9 (d - 1) (by omega) U I133 (ov_kws hw (by decide +kernel))) ?_
              rintro _ z136 h137 ⟨rfl, I138, f135⟩
              show ov_R u d ov_m196 52 [(0, ov_r 0), (1, ov_i m), (2, ov_i b)] [] z136 h137 (P_OF_mark_0 F z h m b)
              have f139 : (h137 36 7) = (h132 36 7) ∧ (h137 1 1) = (h132 1 1) ∧ (h137 90 2) = (h132 90 2) ∧ (h137 0 10) = (h132 0 10) ∧ (h137 0 11) = (h132 0 11) ∧ (h137 0 12) = (h132 0 12) ∧ (h137 0 13) = (h132 0 13) ∧ (h137 3 1) = (h132 3 1) ∧ (h137 36 8) = (h132 36 8) ∧ (h137 46 3) = (h132 46 3) ∧ (h137 46 4) = (h132 46 4) ∧ (h137 49 4) = (h132 49 4) ∧ (h137 49 5) = (h132 49 5) ∧ (h137 64 0) = (h132 64 0) ∧ (h137 76 0) = (h132 76 0) := f135
              clear f135
              refine ov_goto (tgt := 75) d_196_52 (by decide) ?_
              refine ov_blk (ls2 := [(0, ov_r 0), (1, ov_i m), (2, ov_i b)]) (st2 := [ov_i 1]) (pc2 := 76) b_196_75_1 rfl rfl ?_
              exact ov_retz (st := []) d_196_76 rfl (by omega) ⟨_, rfl, I138, (by show (1 = 0 ∨ 1 = 1) ∧ (h137 36 7) = (h 36 7) ∧ (h137 1 1) = (h 1 1) ∧ (h137 90 2) = (h 90 2) ∧ (h137 0 10) = (h 0 10) ∧ (h137 0 11) = (h 0 11) ∧ (h137 0 12) = (h 0 12) ∧ (h137 0 13) = (h 0 13) ∧ (h137 3 1) = (h 3 1) ∧ (h137 36 8) = (h 36 8) ∧ (h137 46 3) = (h 46 3) ∧ (h137 46 4) = (h 46 4) ∧ (h137 49 4) = (h 49 4) ∧ (h137 49 5) = (h 49 5) ∧ (h137 64 0) = (h 64 0) ∧ (h137 76 0) = (h 76 0); omega)⟩
        · skip
          refine ov_blk (ls2 := [(0, ov_r 0), (1, ov_i m), (2, ov_i b)]) (st2 := [ov_i 0]) (pc2 := 27) b_196_26_1 rfl rfl ?_
          exact ov_retz (st := []) d_196_27 rfl (by omega) ⟨_, rfl, I, (by show (0 = 0 ∨ 0 = 1) ∧ (h 36 7) = (h 36 7) ∧ (h 1 1) = (h 1 1) ∧ (h 90 2) = (h 90 2) ∧ (h 0 10) = (h 0 10) ∧ (h 0 11) = (h 0 11) ∧ (h 0 12) = (h 0 12) ∧ (h 0 13) = (h 0 13) ∧ (h 3 1) = (h 3 1) ∧ (h 36 8) = (h 36 8) ∧ (h 46 3) = (h 46 3) ∧ (h 46 4) = (h 46 4) ∧ (h 49 4) = (h 49 4) ∧ (h 49 5) = (h 49 5) ∧ (h 64 0) = (h 64 0) ∧ (h 76 0) = (h 76 0); omega)⟩
abbrev P_OF_count_0 (F : ov_H) (z : ov_Z) (h : ov_H) (w : Int) : Option ov_V → ov_Z → ov_H → Prop := fun r0 z' h' => ∃ r : Int, r0 = some (ov_i r) ∧ z = z' ∧ h = h' ∧ (True)
set_option maxHeartbeats 4000000 in
theorem c_OF_count_0 {u : ov_U} {F : ov_H} {z : ov_Z} {h : ov_H} (d : Nat) (hd : 2 ≤ d) (U : ov_cap u) (I : ov_I F z h) (w : Int) (g_w : ov_g w) : ov_T u d ov_m198 [ov_r 0, ov_i w] z h (P_OF_count_0 F z h w) := by
  refine ov_en rfl (Nat.le_of_ble_eq_true rfl) ?_
  show ov_R u d ov_m198 0 [(0, ov_r 0), (1, ov_i w)] [] z h (P_OF_count_0 F z h w)
  refine ov_blk (ls2 := [(0, ov_r 0), (1, ov_i w)]) (st2 := [ov_i w]) (pc2 := 1) b_198_0_1 rfl rfl ?_
  by_cases q1 : w = 0
  · refine ov_tin (off := 75) (tgt := 76) d_198_1 (by omega) (by omega) (by rw [q1]; rfl) (by decide) ?_
    refine ov_blk (ls2 := [(0, ov_r 0), (1, ov_i w)]) (st2 := [ov_r 0]) (pc2 := 77) b_198_76_1 rfl rfl ?_
    rcases rg_0_10 I with e2 | e2
    · skip
      refine ov_getf (v := ov_r 58) d_198_77 fl_OF_78 (zb_0 I) (zs_0 I) (congrArg ov_r e2) ?_
      refine ov_getf (v := ov_i (h 58 0)) d_198_80 fl_OF_325 (zb_58 I) (zs_58 I) rfl ?_
      have g3 := rg_58_0 I
      exact ov_reti (st := []) d_198_83 rfl ⟨_, rfl, rfl, rfl, trivial⟩
    · skip
      refine ov_getf (v := ov_r 70) d_198_77 fl_OF_78 (zb_0 I) (zs_0 I) (congrArg ov_r e2) ?_
      refine ov_getf (v := ov_i (h 70 0)) d_198_80 fl_OF_325 (zb_70 I) (zs_70 I) rfl ?_
      have g4 := rg_70_0 I
      exact ov_reti (st := []) d_198_83 rfl ⟨_, rfl, rfl, rfl, trivial⟩
  by_cases q5 : w = 1
  · refine ov_tin (off := 83) (tgt := 84) d_198_1 (by omega) (by omega) (by rw [q5]; rfl) (by decide) ?_
    refine ov_blk (ls2 := [(0, ov_r 0), (1, ov_i w)]) (st2 := [ov_r 0]) (pc2 := 85) b_198_84_1 rfl rfl ?_
    rcases rg_0_10 I with e6 | e6
    · skip
      refine ov_getf (v := ov_r 58) d_198_85 fl_OF_78 (zb_0 I) (zs_0 I) (congrArg ov_r e6) ?_
      refine ov_getf (v := ov_i (h 58 1)) d_198_88 fl_OF_328 (zb_58 I) (zs_58 I) rfl ?_
      have g7 := rg_58_1 I
      exact ov_reti (st := []) d_198_91 rfl ⟨_, rfl, rfl, rfl, trivial⟩
    · skip
      refine ov_getf (v := ov_r 70) d_198_85 fl_OF_78 (zb_0 I) (zs_0 I) (congrArg ov_r e6) ?_
      refine ov_getf (v := ov_i (h 70 1)) d_198_88 fl_OF_328 (zb_70 I) (zs_70 I) rfl ?_
      have g8 := rg_70_1 I
      exact ov_reti (st := []) d_198_91 rfl ⟨_, rfl, rfl, rfl, trivial⟩
  by_cases q9 : w = 2
  · refine ov_tin (off := 91) (tgt := 92) d_198_1 (by omega) (by omega) (by rw [q9]; rfl) (by decide) ?_
    refine ov_blk (ls2 := [(0, ov_r 0), (1, ov_i w)]) (st2 := [ov_r 0]) (pc2 := 93) b_198_92_1 rfl rfl ?_
    rcases rg_0_10 I with e10 | e10
    · skip
      refine ov_getf (v := ov_r 58) d_198_93 fl_OF_78 (zb_0 I) (zs_0 I) (congrArg ov_r e10) ?_
      refine ov_getf (v := ov_i (h 58 9)) d_198_96 fl_OF_331 (zb_58 I) (zs_58 I) rfl ?_
      have g11 := rg_58_9 I
      exact ov_reti (st := []) d_198_99 rfl ⟨_, rfl, rfl, rfl, trivial⟩
    · skip
      refine ov_getf (v := ov_r 70) d_198_93 fl_OF_78 (zb_0 I) (zs_0 I) (congrArg ov_r e10) ?_
      refine ov_getf (v := ov_i (h 70 9)) d_198_96 fl_OF_331 (zb_70 I) (zs_70 I) rfl ?_
      have g12 := rg_70_9 I
      exact ov_reti (st := []) d_198_99 rfl ⟨_, rfl, rfl, rfl, trivial⟩
  by_cases q13 : w = 3
  · refine ov_tin (off := 99) (tgt := 100) d_198_1 (by omega) (by omega) (by rw [q13]; rfl) (by decide) ?_
    refine ov_blk (ls2 := [(0, ov_r 0), (1, ov_i w)]) (st2 := [ov_r 0]) (pc2 := 101) b_198_100_1 rfl rfl ?_
    rcases rg_0_10 I with e14 | e14
    · skip
      refine ov_getf (v := ov_r 58) d_198_101 fl_OF_78 (zb_0 I) (zs_0 I) (congrArg ov_r e14) ?_
      refine ov_getf (v := ov_i (h 58 11)) d_198_104 fl_OF_292 (zb_58 I) (zs_58 I) rfl ?_
      have g15 := rg_58_11 I
      exact ov_reti (st := []) d_198_107 rfl ⟨_, rfl, rfl, rfl, trivial⟩
    · skip
      refine ov_getf (v := ov_r 70) d_198_101 fl_OF_78 (zb_0 I) (zs_0 I) (congrArg ov_r e14) ?_
      refine ov_getf (v := ov_i (h 70 11)) d_198_104 fl_OF_292 (zb_70 I) (zs_70 I) rfl ?_
      have g16 := rg_70_11 I
      exact ov_reti (st := []) d_198_107 rfl ⟨_, rfl, rfl, rfl, trivial⟩
  by_cases q17 : w = 4
  · refine ov_tin (off := 107) (tgt := 108) d_198_1 (by omega) (by omega) (by rw [q17]; rfl) (by decide) ?_
    refine ov_blk (ls2 := [(0, ov_r 0), (1, ov_i w)]) (st2 := [ov_r 0]) (pc2 := 109) b_198_108_1 rfl rfl ?_
    rcases rg_0_12 I with e18 | e18
    · skip
      refine ov_getf (v := ov_r 82) d_198_109 fl_OF_88 (zb_0 I) (zs_0 I) (congrArg ov_r e18) ?_
      refine ov_getf (v := ov_i (h 82 0)) d_198_112 fl_OF_254 (zb_82 I) (zs_82 I) rfl ?_
      have g19 := rg_82_0 I
      exact ov_reti (st := []) d_198_115 rfl ⟨_, rfl, rfl, rfl, trivial⟩
    · skip
      refine ov_getf (v := ov_r 86) d_198_109 fl_OF_88 (zb_0 I) (zs_0 I) (congrArg ov_r e18) ?_
      refine ov_getf (v := ov_i (h 86 0)) d_198_112 fl_OF_254 (zb_86 I) (zs_86 I) rfl ?_
      have g20 := rg_86_0 I
      exact ov_reti (st := []) d_198_115 rfl ⟨_, rfl, rfl, rfl, trivial⟩
  by_cases q21 : w = 5
  · refine ov_tin (off := 115) (tgt := 116) d_198_1 (by omega) (by omega) (by rw [q21]; rfl) (by decide) ?_
    refine ov_blk (ls2 := [(0, ov_r 0), (1, ov_i w)]) (st2 := [ov_r 0]) (pc2 := 117) b_198_116_1 rfl rfl ?_
    refine ov_getf (v := ov_r 4) d_198_117 fl_OF_28 (zb_0 I) (zs_0 I) (congrArg ov_r (rg_0_2 I)) ?_
    refine ov_getf (v := ov_i (h 4 0)) d_198_120 fl_OF_166 (zb_4 I) (zs_4 I) rfl ?_
    have g22 := rg_4_0 I
    refine ov_blk (ls2 := [(0, ov_r 0), (1, ov_i w)]) (st2 := [ov_i 6, ov_i (h 4 0)]) (pc2 := 125) b_198_123_1 rfl rfl ?_
    refine ov_irem d_198_125 (by omega) (by omega) (by omega) ?_
    have g23 := ov_tmg (a := (h 4 0)) (b := 6) (by omega) (by omega)
    exact ov_reti (st := []) d_198_126 rfl ⟨_, rfl, rfl, rfl, trivial⟩
  by_cases q24 : w = 6
  · refine ov_tin (off := 126) (tgt := 127) d_198_1 (by omega) (by omega) (by rw [q24]; rfl) (by decide) ?_
    refine ov_blk (ls2 := [(0, ov_r 0), (1, ov_i w)]) (st2 := [ov_r 0]) (pc2 := 128) b_198_127_1 rfl rfl ?_
    refine ov_getf (v := ov_r 4) d_198_128 fl_OF_28 (zb_0 I) (zs_0 I) (congrArg ov_r (rg_0_2 I)) ?_
    refine ov_getf (v := ov_i (h 4 0)) d_198_131 fl_OF_166 (zb_4 I) (zs_4 I) rfl ?_
    have g25 := rg_4_0 I
    refine ov_blk (ls2 := [(0, ov_r 0), (1, ov_i w)]) (st2 := [ov_i 6, ov_i (h 4 0)]) (pc2 := 136) b_198_134_1 rfl rfl ?_
    refine ov_idiv d_198_136 (by omega) (by omega) (by omega) ?_
    exact ov_reti (st := []) d_198_137 rfl ⟨_, rfl, rfl, rfl, trivial⟩
  by_cases q26 : w = 7
  · refine ov_tin (off := 137) (tgt := 138) d_198_1 (by omega) (by omega) (by rw [q26]; rfl) (by decide) ?_
    refine ov_blk (ls2 := [(0, ov_r 0), (1, ov_i w)]) (st2 := [ov_r 0]) (pc2 := 139) b_198_138_1 rfl rfl ?_
    refine ov_getf (v := ov_r 4) d_198_139 fl_OF_28 (zb_0 I) (zs_0 I) (congrArg ov_r (rg_0_2 I)) ?_
    refine ov_getf (v := ov_i (h 4 1)) d_198_142 fl_OF_179 (zb_4 I) (zs_4 I) rfl ?_
    have g27 := rg_4_1 I
    exact ov_reti (st := []) d_198_145 rfl ⟨_, rfl, rfl, rfl, trivial⟩
  by_cases q28 : w = 8
  · refine ov_tin (off := 145) (tgt := 146) d_198_1 (by omega) (by omega) (by rw [q28]; rfl) (by decide) ?_
    refine ov_blk (ls2 := [(0, ov_r 0), (1, ov_i w)]) (st2 := [ov_r 0]) (pc2 := 147) b_198_146_1 rfl rfl ?_
    refine ov_cV (as := []) (st := []) (d2 := d - 1) d_198_147 lk_OF_168 rfl (Nat.le_of_ble_eq_true rfl) (c := 0) (zb_0 I) (zs_0 I) ⟨by decide, rfl⟩ (by omega) (c_OF_runsLeft_0 (d - 1) (by omega) U I) ?_
    rintro _ _ _ ⟨v30, rfl, rfl, rfl, f29⟩
    show ov_R u d ov_m198 150 [(0, ov_r 0), (1, ov_i w)] [ov_i v30] z h (P_OF_count_0 F z h w)
    have f31 : -2147483648 ≤ v30 ∧ v30 ≤ 2147483647 := f29
    clear f29
    exact ov_reti (st := []) d_198_150 rfl ⟨_, rfl, rfl, rfl, trivial⟩
  by_cases q32 : w = 9
  · refine ov_tin (off := 150) (tgt := 151) d_198_1 (by omega) (by omega) (by rw [q32]; rfl) (by decide) ?_
    refine ov_blk (ls2 := [(0, ov_r 0), (1, ov_i w)]) (st2 := [ov_r 0]) (pc2 := 152) b_198_151_1 rfl rfl ?_
    refine ov_cV (as := []) (st := []) (d2 := d - 1) d_198_152 lk_OF_334 rfl (Nat.le_of_ble_eq_true rfl) (c := 0) (zb_0 I) (zs_0 I) ⟨by decide, rfl⟩ (by omega) (c_OF_hiddenLeft_0 (d - 1) (by omega) U I) ?_
    rintro _ _ _ ⟨v34, rfl, rfl, rfl, f33⟩
    show ov_R u d ov_m198 155 [(0, ov_r 0), (1, ov_i w)] [ov_i v34] z h (P_OF_count_0 F z h w)
    have f35 : -2147483648 ≤ v34 ∧ v34 ≤ 2147483647 := f33
    clear f33
    exact ov_reti (st := []) d_198_155 rfl ⟨_, rfl, rfl, rfl, trivial⟩
  by_cases q36 : w = 10
  · refine ov_tin (off := 155) (tgt := 156) d_198_1 (by omega) (by omega) (by rw [q36]; rfl) (by decide) ?_
    refine ov_blk (ls2 := [(0, ov_r 0), (1, ov_i w)]) (st2 := [ov_r 0]) (pc2 := 157) b_198_156_1 rfl rfl ?_
    refine ov_getf (v := ov_r 4) d_198_157 fl_OF_28 (zb_0 I) (zs_0 I) (congrArg ov_r (rg_0_2 I)) ?_
    refine ov_getf (v := ov_i (h 4 4)) d_198_160 fl_OF_337 (zb_4 I) (zs_4 I) rfl ?_
    have g37 := rg_4_4 I
    exact ov_reti (st := []) d_198_163 rfl ⟨_, rfl, rfl, rfl, trivial⟩
  by_cases q38 : w = 11
  · refine ov_tin (off := 163) (tgt := 164) d_198_1 (by omega) (by omega) (by rw [q38]; rfl) (by decide) ?_
    refine ov_blk (ls2 := [(0, ov_r 0), (1, ov_i w)]) (st2 := [ov_r 0]) (pc2 := 165) b_198_164_1 rfl rfl ?_
    refine ov_getf (v := ov_r 4) d_198_165 fl_OF_28 (zb_0 I) (zs_0 I) (congrArg ov_r (rg_0_2 I)) ?_
    refine ov_getf (v := ov_i (h 4 5)) d_198_168 fl_OF_340 (zb_4 I) (zs_4 I) rfl ?_
    have g39 := rg_4_5 I
    exact ov_reti (st := []) d_198_171 rfl ⟨_, rfl, rfl, rfl, trivial⟩
  by_cases q40 : w = 12
  · refine ov_tin (off := 171) (tgt := 172) d_198_1 (by omega) (by omega) (by rw [q40]; rfl) (by decide) ?_
    refine ov_blk (ls2 := [(0, ov_r 0), (1, ov_i w)]) (st2 := [ov_r 0]) (pc2 := 173) b_198_172_1 rfl rfl ?_
    rcases rg_0_10 I with e41 | e41
    · skip
      refine ov_getf (v := ov_r 58) d_198_173 fl_OF_78 (zb_0 I) (zs_0 I) (congrArg ov_r e41) ?_
      refine ov_getf (v := ov_i (h 58 10)) d_198_176 fl_OF_343 (zb_58 I) (zs_58 I) rfl ?_
      have g42 := rg_58_10 I
      exact ov_reti (st := []) d_198_179 rfl ⟨_, rfl, rfl, rfl, trivial⟩
    · skip
      refine ov_getf (v := ov_r 70) d_198_173 fl_OF_78 (zb_0 I) (zs_0 I) (congrArg ov_r e41) ?_
      refine ov_getf (v := ov_i (h 70 10)) d_198_176 fl_OF_343 (zb_70 I) (zs_70 I) rfl ?_
      have g43 := rg_70_10 I
      exact ov_reti (st := []) d_198_179 rfl ⟨_, rfl, rfl, rfl, trivial⟩
  by_cases q44 : w = 13
  · refine ov_tin (off := 179) (tgt := 180) d_198_1 (by omega) (by omega) (by rw [q44]; rfl) (by decide) ?_
    refine ov_blk (ls2 := [(0, ov_r 0), (1, ov_i w)]) (st2 := [ov_r 0]) (pc2 := 181) b_198_180_1 rfl rfl ?_
    refine ov_getf (v := ov_r 9) d_198_181 fl_OF_35 (zb_0 I) (zs_0 I) (congrArg ov_r (rg_0_3 I)) ?_
    refine ov_getf (v := ov_i (h 9 0)) d_198_184 fl_OF_346 (zb_9 I) (zs_9 I) rfl ?_
    have g45 := rg_9_0 I
    exact ov_reti (st := []) d_198_187 rfl ⟨_, rfl, rfl, rfl, trivial⟩
  by_cases q46 : w = 14
  · refine ov_tin (off := 187) (tgt := 188) d_198_1 (by omega) (by omega) (by rw [q46]; rfl) (by decide) ?_
    refine ov_blk (ls2 := [(0, ov_r 0), (1, ov_i w)]) (st2 := [ov_r 0]) (pc2 := 189) b_198_188_1 rfl rfl ?_
    refine ov_getf (v := ov_r 1) d_198_189 fl_OF_12 (zb_0 I) (zs_0 I) (congrArg ov_r (rg_0_0 I)) ?_
    refine ov_getf (v := ov_i (h 1 1)) d_198_192 fl_OF_105 (zb_1 I) (zs_1 I) rfl ?_
    have g47 := rg_1_1 I
    exact ov_reti (st := []) d_198_195 rfl ⟨_, rfl, rfl, rfl, trivial⟩
  refine ov_tout (tgt := 196) d_198_1 (by omega) (by omega) (by decide) ?_
  refine ov_blk (ls2 := [(0, ov_r 0), (1, ov_i w)]) (st2 := [ov_i (-1)]) (pc2 := 197) b_198_196_1 rfl rfl ?_
  exact ov_reti (st := []) d_198_197 rfl ⟨_, rfl, rfl, rfl, trivial⟩

theorem b_22_15_2 : ov_ds ov_m22.2.1 15 [.i2c, .istore 4] = true := by decide +kernel
theorem b_22_18_1 : ov_ds ov_m22.2.1 18 [.aload_n 0] = true := by decide +kernel
abbrev P_Tape_append_1_b (F : ov_H) (z : ov_Z) (h : ov_H) (w : Int) : Option ov_V → ov_Z → ov_H → Prop := fun r0 z' h' => r0 = none ∧ ov_I F z' h' ∧ ((h' 1 1) = ov_fdn w (h 1 1) 8 ∧ (h' 36 7) = (h 36 7) ∧ (h' 90 2) = (h 90 2) ∧ (h' 0 10) = (h 0 10) ∧ (h' 0 11) = (h 0 11) ∧ (h' 0 12) = (h 0 12) ∧ (h' 0 13) = (h 0 13) ∧ (h' 3 1) = (h 3 1) ∧ (h' 36 8) = (h 36 8) ∧ (h' 46 3) = (h 46 3) ∧ (h' 46 4) = (h 46 4) ∧ (h' 49 4) = (h 49 4) ∧ (h' 49 5) = (h 49 5) ∧ (h' 64 0) = (h 64 0) ∧ (h' 76 0) = (h 76 0))
set_option maxHeartbeats 4000000 in
theorem c_Tape_append_1_b {u : ov_U} {F : ov_H} {z : ov_Z} {h : ov_H} (d : Nat) (hd : 0 ≤ d) (U : ov_cap u) (I : ov_I F z h) (hw : ov_kw 6 F) (w : Int) : ov_T u d ov_m22 [ov_r 1, ov_l w] z h (P_Tape_append_1_b F z h w) := by
  refine ov_en rfl (Nat.le_of_ble_eq_true rfl) ?_
  show ov_R u d ov_m22 0 [(0, ov_r 1), (1, ov_l w)] [] z h (P_Tape_append_1_b F z h w)
  refine ov_blk (ls2 := [(0, ov_r 1), (1, ov_l w), (3, ov_i 56)]) (st2 := []) (pc2 := 3) b_22_0_2 rfl rfl ?_
  have fz : ov_fdn w (h 1 1) (Int.toNat ((56 - 56) / 8)) = h 1 1 := rfl
  have L4 : ∀ (n1 : Nat) (x3 : Int) (z5 : ov_Z) (h6 : ov_H) (I7 : ov_I F z5 h6) (q3 : -8 ≤ x3 ∧ x3 ≤ 56 ∧ x3 % 8 = 0 ∧ (h6 1 1) = ov_fdn w (h 1 1) (Int.toNat ((56 - x3) / 8)) ∧ (h6 36 7) = (h 36 7) ∧ (h6 90 2) = (h 90 2) ∧ (h6 0 10) = (h 0 10) ∧ (h6 0 11) = (h 0 11) ∧ (h6 0 12) = (h 0 12) ∧ (h6 0 13) = (h 0 13) ∧ (h6 3 1) = (h 3 1) ∧ (h6 36 8) = (h 36 8) ∧ (h6 46 3) = (h 46 3) ∧ (h6 46 4) = (h 46 4) ∧ (h6 49 4) = (h 49 4) ∧ (h6 49 5) = (h 49 5) ∧ (h6 64 0) = (h 64 0) ∧ (h6 76 0) = (h 76 0)), x3 + 8 < (n1 : Int) → ov_R u d ov_m22 3 [(0, ov_r 1), (1, ov_l w), (3, ov_i x3)] [] z5 h6 (P_Tape_append_1_b F z h w) := by
    intro n1
    induction n1 with
    | zero =>
      intro x3 z5 h6 I7 q3 hn8
      exact absurd hn8 (by omega)
    | succ n1 ih2 =>
      intro x3 z5 h6 I7 q3 hn8
      refine ov_blk (ls2 := [(0, ov_r 1), (1, ov_l w), (3, ov_i x3)]) (st2 := [ov_i x3]) (pc2 := 4) b_22_3_1 rfl rfl ?_
      refine ov_iflt (tgt := 76) d_22_4 (by decide) (by omega) (fun c9 => ?_) (fun c9 => ?_)
      · skip
        have fe : ov_fdn w (h 1 1) (Int.toNat ((56 - x3) / 8)) = ov_fdn w (h 1 1) 8 := by rw [show Int.toNat ((56 - x3) / 8) = 8 by omega]
        exact ov_retv (st := []) d_22_76 rfl ⟨rfl, I7, (by show (h6 1 1) = ov_fdn w (h 1 1) 8 ∧ (h6 36 7) = (h 36 7) ∧ (h6 90 2) = (h 90 2) ∧ (h6 0 10) = (h 0 10) ∧ (h6 0 11) = (h 0 11) ∧ (h6 0 12) = (h 0 12) ∧ (h6 0 13) = (h 0 13) ∧ (h6 3 1) = (h 3 1) ∧ (h6 36 8) = (h 36 8) ∧ (h6 46 3) = (h 46 3) ∧ (h6 46 4) = (h 46 4) ∧ (h6 49 4) = (h 49 4) ∧ (h6 49 5) = (h 49 5) ∧ (h6 64 0) = (h 64 0) ∧ (h6 76 0) = (h 76 0); omega)⟩
      · skip
        refine ov_blk (ls2 := [(0, ov_r 1), (1, ov_l w), (3, ov_i x3)]) (st2 := [ov_l (ov_lushr w x3)]) (pc2 := 10) b_22_7_3 rfl rfl ?_
        refine ov_ldc2 (n := 255) d_22_10 kc_Tape_15 ?_
        refine ov_blk (ls2 := [(0, ov_r 1), (1, ov_l w), (3, ov_i x3)]) (st2 := [ov_i (ov_land (ov_lushr w x3) 255)]) (pc2 := 15) b_22_13_2 rfl rfl ?_
        refine ov_havw (fun w10 gw10 qw10 => ?_)
        refine ov_blk (ls2 := [(0, ov_r 1), (1, ov_l w), (3, ov_i x3), (4, ov_i (ov_i2c w10))]) (st2 := []) (pc2 := 18) b_22_15_2 rfl rfl ?_
        have g11 := ov_i2cg w10
        have fs : (ov_fdn w (h 1 1) (Int.toNat ((56 - x3) / 8)) < 1000 → ((ov_bt w x3) = 10 ∨ (32 ≤ (ov_bt w x3) ∧ (ov_bt w x3) ≤ 126)) → ov_fdn w (h 1 1) (Int.toNat ((56 - (x3 + (-8))) / 8)) = ov_fdn w (h 1 1) (Int.toNat ((56 - x3) / 8)) + 1) ∧ (1000 ≤ ov_fdn w (h 1 1) (Int.toNat ((56 - x3) / 8)) ∨ ¬ ((ov_bt w x3) = 10 ∨ (32 ≤ (ov_bt w x3) ∧ (ov_bt w x3) ≤ 126)) → ov_fdn w (h 1 1) (Int.toNat ((56 - (x3 + (-8))) / 8)) = ov_fdn w (h 1 1) (Int.toNat ((56 - x3) / 8))) := ov_fd_step (by omega) (by omega)
        have fl := ov_lubI (w := w) (s := x3) (by omega)
        have fr := ov_bt_rng w x3
        have fw : w10 = ov_bt w x3 := by omega
        have fc : (ov_i2c w10) = ov_bt w x3 := by rw [ov_i2c_id (by omega)]; exact fw
        refine ov_blk (ls2 := [(0, ov_r 1), (1, ov_l w), (3, ov_i x3), (4, ov_i (ov_i2c w10))]) (st2 := [ov_r 1]) (pc2 := 19) b_22_18_1 rfl rfl ?_
        refine ov_getf (v := ov_i (h6 1 1)) d_22_19 fl_Tape_17 (zb_1 I7) (zs_1 I7) rfl ?_
        have g12 := rg_1_1 I7
        refine ov_blk (ls2 := [(0, ov_r 1), (1, ov_l w), (3, ov_i x3), (4, ov_i (ov_i2c w10))]) (st2 := [ov_i 1000, ov_i (h6 1 1)]) (pc2 := 25) b_22_22_1 rfl rfl ?_
        refine ov_icge (tgt := 70) d_22_25 (by decide) (by omega) (by omega) (fun c13 => ?_) (fun c13 => ?_)
        · skip
          refine ov_blk (ls2 := [(0, ov_r 1), (1, ov_l w), (3, ov_i (x3 + (-8))), (4, ov_i (ov_i2c w10))]) (st2 := []) (pc2 := 73) b_22_70_1 rfl rfl ?_
          refine ov_goto (tgt := 3) d_22_73 (by decide) ?_
          refine ov_sub (ls2 := [(0, ov_r 1), (1, ov_l w), (3, ov_i (x3 + (-8)))]) (List.Sublist.subset (by repeat (first | exact List.Sublist.refl _ | apply List.Sublist.cons_cons | apply List.Sublist.cons))) ?_
          exact ih2 (x3 + (-8)) _ _ I7 (by show -8 ≤ (x3 + (-8)) ∧ (x3 + (-8)) ≤ 56 ∧ (x3 + (-8)) % 8 = 0 ∧ (h6 1 1) = ov_fdn w (h 1 1) (Int.toNat ((56 - (x3 + (-8))) / 8)) ∧ (h6 36 7) = (h 36 7) ∧ (h6 90 2) = (h 90 2) ∧ (h6 0 10) = (h 0 10) ∧ (h6 0 11) = (h 0 11) ∧ (h6 0 12) = (h 0 12) ∧ (h6 0 13) = (h 0 13) ∧ (h6 3 1) = (h 3 1) ∧ (h6 36 8) = (h 36 8) ∧ (h6 46 3) = (h 46 3) ∧ (h6 46 4) = (h 46 4) ∧ (h6 49 4) = (h 49 4) ∧ (h6 49 5) = (h 49 5) ∧ (h6 64 0) = (h 64 0) ∧ (h6 76 0) = (h 76 0); omega) (by omega)
        · skip
          refine ov_blk (ls2 := [(0, ov_r 1), (1, ov_l w), (3, ov_i x3), (4, ov_i (ov_i2c w10))]) (st2 := [ov_i 10, ov_i (ov_i2c w10)]) (pc2 := 32) b_22_28_2 rfl rfl ?_
          refine ov_iceq (tgt := 49) d_22_32 (by decide) (by omega) (by omega) (fun c14 => ?_) (fun c14 => ?_)
          · skip
            refine ov_blk (ls2 := [(0, ov_r 1), (1, ov_l w), (3, ov_i x3), (4, ov_i (ov_i2c w10))]) (st2 := [ov_r 1]) (pc2 := 50) b_22_49_1 rfl rfl ?_
            refine ov_getf (v := ov_r 2) d_22_50 fl_Tape_9 (zb_1 I7) (zs_1 I7) (congrArg ov_r (rg_1_0 I7)) ?_
            refine ov_blk (ls2 := [(0, ov_r 1), (1, ov_l w), (3, ov_i x3), (4, ov_i (ov_i2c w10))]) (st2 := [ov_r 1, ov_r 2]) (pc2 := 54) b_22_53_1 rfl rfl ?_
            refine ov_getf (v := ov_i (h6 1 1)) d_22_54 fl_Tape_17 (zb_1 I7) (zs_1 I7) rfl ?_
            refine ov_blk (ls2 := [(0, ov_r 1), (1, ov_l w), (3, ov_i x3), (4, ov_i (ov_i2c w10))]) (st2 := [ov_i (ov_i2c w10), ov_i (h6 1 1), ov_r 2]) (pc2 := 59) b_22_57_1 rfl rfl ?_
            refine ov_cast d_22_59 (zb_2 I7) (zs_2 I7) (by omega) (by omega) ?_
            have I16 := ua_2 (k := (h6 1 1)) (x := (ov_i2c w10)) I7 (by omega) (hw 2 (by decide +kernel))
            refine ov_blk (ls2 := [(0, ov_r 1), (1, ov_l w), (3, ov_i x3), (4, ov_i (ov_i2c w10))]) (st2 := [ov_r 1, ov_r 1]) (pc2 := 62) b_22_60_2 rfl rfl ?_
            refine ov_getf (v := ov_i (h6 1 1)) d_22_62 fl_Tape_17 (zb_1 I16) (zs_1 I16) rfl ?_
            refine ov_blk (ls2 := [(0, ov_r 1), (1, ov_l w), (3, ov_i x3), (4, ov_i (ov_i2c w10))]) (st2 := [ov_i ((h6 1 1) + 1), ov_r 1]) (pc2 := 67) b_22_65_2 rfl rfl ?_
            refine ov_putf (x := ((h6 1 1) + 1)) d_22_67 fl_Tape_17 (zb_1 I16) (zs_1 I16) rfl nk_0 rfl ?_
            have I18 := up_1_1 (x := ((h6 1 1) + 1)) I16 (by omega) (hw 1 (by decide +kernel))
            refine ov_blk (ls2 := [(0, ov_r 1), (1, ov_l w), (3, ov_i (x3 + (-8))), (4, ov_i (ov_i2c w10))]) (st2 := []) (pc2 := 73) b_22_70_1 rfl rfl ?_
            refine ov_goto (tgt := 3) d_22_73 (by decide) ?_
            refine ov_sub (ls2 := [(0, ov_r 1), (1, ov_l w), (3, ov_i (x3 + (-8)))]) (List.Sublist.subset (by repeat (first | exact List.Sublist.refl _ | apply List.Sublist.cons_cons | apply List.Sublist.cons))) ?_
            exact ih2 (x3 + (-8)) _ _ I18 (by show -8 ≤ (x3 + (-8)) ∧ (x3 + (-8)) ≤ 56 ∧ (x3 + (-8)) % 8 = 0 ∧ ((h6 1 1) + 1) = ov_fdn w (h 1 1) (Int.toNat ((56 - (x3 + (-8))) / 8)) ∧ (h6 36 7) = (h 36 7) ∧ (h6 90 2) = (h 90 2) ∧ (h6 0 10) = (h 0 10) ∧ (h6 0 11) = (h 0 11) ∧ (h6 0 12) = (h 0 12) ∧ (h6 0 13) = (h 0 13) ∧ (h6 3 1) = (h 3 1) ∧ (h6 36 8) = (h 36 8) ∧ (h6 46 3) = (h 46 3) ∧ (h6 46 4) = (h 46 4) ∧ (h6 49 4) = (h 49 4) ∧ (h6 49 5) = (h 49 5) ∧ (h6 64 0) = (h 64 0) ∧ (h6 76 0) = (h 76 0); omega) (by omega)
          · skip
            refine ov_blk (ls2 := [(0, ov_r 1), (1, ov_l w), (3, ov_i x3), (4, ov_i (ov_i2c w10))]) (st2 := [ov_i 32, ov_i (ov_i2c w10)]) (pc2 := 39) b_22_35_2 rfl rfl ?_
            refine ov_iclt (tgt := 70) d_22_39 (by decide) (by omega) (by omega) (fun c19 => ?_) (fun c19 => ?_)
            · skip
              refine ov_blk (ls2 := [(0, ov_r 1), (1, ov_l w), (3, ov_i (x3 + (-8))), (4, ov_i (ov_i2c w10))]) (st2 := []) (pc2 := 73) b_22_70_1 rfl rfl ?_
              refine ov_goto (tgt := 3) d_22_73 (by decide) ?_
              refine ov_sub (ls2 := [(0, ov_r 1), (1, ov_l w), (3, ov_i (x3 + (-8)))]) (List.Sublist.subset (by repeat (first | exact List.Sublist.refl _ | apply List.Sublist.cons_cons | apply List.Sublist.cons))) ?_
              exact ih2 (x3 + (-8)) _ _ I7 (by show -8 ≤ (x3 + (-8)) ∧ (x3 + (-8)) ≤ 56 ∧ (x3 + (-8)) % 8 = 0 ∧ (h6 1 1) = ov_fdn w (h 1 1) (Int.toNat ((56 - (x3 + (-8))) / 8)) ∧ (h6 36 7) = (h 36 7) ∧ (h6 90 2) = (h 90 2) ∧ (h6 0 10) = (h 0 10) ∧ (h6 0 11) = (h 0 11) ∧ (h6 0 12) = (h 0 12) ∧ (h6 0 13) = (h 0 13) ∧ (h6 3 1) = (h 3 1) ∧ (h6 36 8) = (h 36 8) ∧ (h6 46 3) = (h 46 3) ∧ (h6 46 4) = (h 46 4) ∧ (h6 49 4) = (h 49 4) ∧ (h6 49 5) = (h 49 5) ∧ (h6 64 0) = (h 64 0) ∧ (h6 76 0) = (h 76 0); omega) (by omega)
            · skip
              refine ov_blk (ls2 := [(0, ov_r 1), (1, ov_l w), (3, ov_i x3), (4, ov_i (ov_i2c w10))]) (st2 := [ov_i 126, ov_i (ov_i2c w10)]) (pc2 := 46) b_22_42_2 rfl rfl ?_
              refine ov_icgt (tgt := 70) d_22_46 (by decide) (by omega) (by omega) (fun c20 => ?_) (fun c20 => ?_)
              · skip
                refine ov_blk (ls2 := [(0, ov_r 1), (1, ov_l w), (3, ov_i (x3 + (-8))), (4, ov_i (ov_i2c w10))]) (st2 := []) (pc2 := 73) b_22_70_1 rfl rfl ?_
                refine ov_goto (tgt := 3) d_22_73 (by decide) ?_
                refine ov_sub (ls2 := [(0, ov_r 1), (1, ov_l w), (3, ov_i (x3 + (-8)))]) (List.Sublist.subset (by repeat (first | exact List.Sublist.refl _ | apply List.Sublist.cons_cons | apply List.Sublist.cons))) ?_
                exact ih2 (x3 + (-8)) _ _ I7 (by show -8 ≤ (x3 + (-8)) ∧ (x3 + (-8)) ≤ 56 ∧ (x3 + (-8)) % 8 = 0 ∧ (h6 1 1) = ov_fdn w (h 1 1) (Int.toNat ((56 - (x3 + (-8))) / 8)) ∧ (h6 36 7) = (h 36 7) ∧ (h6 90 2) = (h 90 2) ∧ (h6 0 10) = (h 0 10) ∧ (h6 0 11) = (h 0 11) ∧ (h6 0 12) = (h 0 12) ∧ (h6 0 13) = (h 0 13) ∧ (h6 3 1) = (h 3 1) ∧ (h6 36 8) = (h 36 8) ∧ (h6 46 3) = (h 46 3) ∧ (h6 46 4) = (h 46 4) ∧ (h6 49 4) = (h 49 4) ∧ (h6 49 5) = (h 49 5) ∧ (h6 64 0) = (h 64 0) ∧ (h6 76 0) = (h 76 0); omega) (by omega)
              · skip
                refine ov_blk (ls2 := [(0, ov_r 1), (1, ov_l w), (3, ov_i x3), (4, ov_i (ov_i2c w10))]) (st2 := [ov_r 1]) (pc2 := 50) b_22_49_1 rfl rfl ?_
                refine ov_getf (v := ov_r 2) d_22_50 fl_Tape_9 (zb_1 I7) (zs_1 I7) (congrArg ov_r (rg_1_0 I7)) ?_
                refine ov_blk (ls2 := [(0, ov_r 1), (1, ov_l w), (3, ov_i x3), (4, ov_i (ov_i2c w10))]) (st2 := [ov_r 1, ov_r 2]) (pc2 := 54) b_22_53_1 rfl rfl ?_
                refine ov_getf (v := ov_i (h6 1 1)) d_22_54 fl_Tape_17 (zb_1 I7) (zs_1 I7) rfl ?_
                refine ov_blk (ls2 := [(0, ov_r 1), (1, ov_l w), (3, ov_i x3), (4, ov_i (ov_i2c w10))]) (st2 := [ov_i (ov_i2c w10), ov_i (h6 1 1), ov_r 2]) (pc2 := 59) b_22_57_1 rfl rfl ?_
                refine ov_cast d_22_59 (zb_2 I7) (zs_2 I7) (by omega) (by omega) ?_
                have I22 := ua_2 (k := (h6 1 1)) (x := (ov_i2c w10)) I7 (by omega) (hw 2 (by decide +kernel))
                refine ov_blk (ls2 := [(0, ov_r 1), (1, ov_l w), (3, ov_i x3), (4, ov_i (ov_i2c w10))]) (st2 := [ov_r 1, ov_r 1]) (pc2 := 62) b_22_60_2 rfl rfl ?_
                refine ov_getf (v := ov_i (h6 1 1)) d_22_62 fl_Tape_17 (zb_1 I22) (zs_1 I22) rfl ?_
                refine ov_blk (ls2 := [(0, ov_r 1), (1, ov_l w), (3, ov_i x3), (4, ov_i (ov_i2c w10))]) (st2 := [ov_i ((h6 1 1) + 1), ov_r 1]) (pc2 := 67) b_22_65_2 rfl rfl ?_
                refine ov_putf (x := ((h6 1 1) + 1)) d_22_67 fl_Tape_17 (zb_1 I22) (zs_1 I22) rfl nk_0 rfl ?_
                have I24 := up_1_1 (x := ((h6 1 1) + 1)) I22 (by omega) (hw 1 (by decide +kernel))
                refine ov_blk (ls2 := [(0, ov_r 1), (1, ov_l w), (3, ov_i (x3 + (-8))), (4, ov_i (ov_i2c w10))]) (st2 := []) (pc2 := 73) b_22_70_1 rfl rfl ?_
                refine ov_goto (tgt := 3) d_22_73 (by decide) ?_
                refine ov_sub (ls2 := [(0, ov_r 1), (1, ov_l w), (3, ov_i (x3 + (-8)))]) (List.Sublist.subset (by repeat (first | exact List.Sublist.refl _ | apply List.Sublist.cons_cons | apply List.Sublist.cons))) ?_
                exact ih2 (x3 + (-8)) _ _ I24 (by show -8 ≤ (x3 + (-8)) ∧ (x3 + (-8)) ≤ 56 ∧ (x3 + (-8)) % 8 = 0 ∧ ((h6 1 1) + 1) = ov_fdn w (h 1 1) (Int.toNat ((56 - (x3 + (-8))) / 8)) ∧ (h6 36 7) = (h 36 7) ∧ (h6 90 2) = (h 90 2) ∧ (h6 0 10) = (h 0 10) ∧ (h6 0 11) = (h 0 11) ∧ (h6 0 12) = (h 0 12) ∧ (h6 0 13) = (h 0 13) ∧ (h6 3 1) = (h 3 1) ∧ (h6 36 8) = (h 36 8) ∧ (h6 46 3) = (h 46 3) ∧ (h6 46 4) = (h 46 4) ∧ (h6 49 4) = (h 49 4) ∧ (h6 49 5) = (h 49 5) ∧ (h6 64 0) = (h 64 0) ∧ (h6 76 0) = (h 76 0); omega) (by omega)
  exact L4 100 56 _ _ I (by show -8 ≤ 56 ∧ 56 ≤ 56 ∧ 56 % 8 = 0 ∧ (h 1 1) = ov_fdn w (h 1 1) (Int.toNat ((56 - 56) / 8)) ∧ (h 36 7) = (h 36 7) ∧ (h 90 2) = (h 90 2) ∧ (h 0 10) = (h 0 10) ∧ (h 0 11) = (h 0 11) ∧ (h 0 12) = (h 0 12) ∧ (h 0 13) = (h 0 13) ∧ (h 3 1) = (h 3 1) ∧ (h 36 8) = (h 36 8) ∧ (h 46 3) = (h 46 3) ∧ (h 46 4) = (h 46 4) ∧ (h 49 4) = (h 49 4) ∧ (h 49 5) = (h 49 5) ∧ (h 64 0) = (h 64 0) ∧ (h 76 0) = (h 76 0); omega) (by omega)
abbrev P_OF_feed_0_b (F : ov_H) (z : ov_Z) (h : ov_H) (a : Int) (b : Int) (c : Int) : Option ov_V → ov_Z → ov_H → Prop := fun r0 z' h' => ∃ r : Int, r0 = some (ov_i r) ∧ ov_I F z' h' ∧ (r = (h' 1 1) ∧ (h' 1 1) = ov_fdn c (ov_fdn b (ov_fdn a (h 1 1) 8) 8) 8 ∧ (h' 36 7) = (h 36 7) ∧ (h' 90 2) = (h 90 2) ∧ (h' 0 10) = (h 0 10) ∧ (h' 0 11) = (h 0 11) ∧ (h' 0 12) = (h 0 12) ∧ (h' 0 13) = (h 0 13) ∧ (h' 3 1) = (h 3 1) ∧ (h' 36 8) = (h 36 8) ∧ (h' 46 3) = (h 46 3) ∧ (h' 46 4) = (h 46 4) ∧ (h' 49 4) = (h 49 4) ∧ (h' 49 5) = (h 49 5) ∧ (h' 64 0) = (h 64 0) ∧ (h' 76 0) = (h 76 0))
set_option maxHeartbeats 4000000 in
theorem c_OF_feed_0_b {u : ov_U} {F : ov_H} {z : ov_Z} {h : ov_H} (d : Nat) (hd : 1 ≤ d) (U : ov_cap u) (I : ov_I F z h) (hw : ov_kw 6 F) (a : Int) (b : Int) (c : Int) : ov_T u d ov_m21 [ov_r 0, ov_l a, ov_l b, ov_l c] z h (P_OF_feed_0_b F z h a b c) := by
  refine ov_en rfl (Nat.le_of_ble_eq_true rfl) ?_
  show ov_R u d ov_m21 0 [(0, ov_r 0), (1, ov_l a), (3, ov_l b), (5, ov_l c)] [] z h (P_OF_feed_0_b F z h a b c)
  refine ov_blk (ls2 := [(0, ov_r 0), (1, ov_l a), (3, ov_l b), (5, ov_l c)]) (st2 := [ov_r 0]) (pc2 := 1) b_21_0_1 rfl rfl ?_
  refine ov_getf (v := ov_r 1) d_21_1 fl_OF_12 (zb_0 I) (zs_0 I) (congrArg ov_r (rg_0_0 I)) ?_
  refine ov_blk (ls2 := [(0, ov_r 0), (1, ov_l a), (3, ov_l b), (5, ov_l c)]) (st2 := [ov_l a, ov_r 1]) (pc2 := 5) b_21_4_1 rfl rfl ?_
  refine ov_cV (as := [ov_l a]) (st := []) (d2 := d - 1) d_21_5 lk_OF_101 rfl (Nat.le_of_ble_eq_true rfl) (c := 8) (zb_1 I) (zs_1 I) ⟨by decide, rfl⟩ (by omega) (c_Tape_append_1_b (d - 1) (by omega) U I (ov_kws hw (by decide +kernel)) a) ?_
  rintro _ z2 h3 ⟨rfl, I4, f1⟩
  show ov_R u d ov_m21 8 [(0, ov_r 0), (1, ov_l a), (3, ov_l b), (5, ov_l c)] [] z2 h3 (P_OF_feed_0_b F z h a b c)
  have f5 : (h3 1 1) = ov_fdn a (h 1 1) 8 ∧ (h3 36 7) = (h 36 7) ∧ (h3 90 2) = (h 90 2) ∧ (h3 0 10) = (h 0 10) ∧ (h3 0 11) = (h 0 11) ∧ (h3 0 12) = (h 0 12) ∧ (h3 0 13) = (h 0 13) ∧ (h3 3 1) = (h 3 1) ∧ (h3 36 8) = (h 36 8) ∧ (h3 46 3) = (h 46 3) ∧ (h3 46 4) = (h 46 4) ∧ (h3 49 4) = (h 49 4) ∧ (h3 49 5) = (h 49 5) ∧ (h3 64 0) = (h 64 0) ∧ (h3 76 0) = (h 76 0) := f1
  clear f1
  refine ov_blk (ls2 := [(0, ov_r 0), (1, ov_l a), (3, ov_l b), (5, ov_l c)]) (st2 := [ov_r 0]) (pc2 := 9) b_21_8_1 rfl rfl ?_
  refine ov_getf (v := ov_r 1) d_21_9 fl_OF_12 (zb_0 I4) (zs_0 I4) (congrArg ov_r (rg_0_0 I4)) ?_
  refine ov_blk (ls2 := [(0, ov_r 0), (1, ov_l a), (3, ov_l b), (5, ov_l c)]) (st2 := [ov_l b, ov_r 1]) (pc2 := 13) b_21_12_1 rfl rfl ?_
  refine ov_cV (as := [ov_l b]) (st := []) (d2 := d - 1) d_21_13 lk_OF_101 rfl (Nat.le_of_ble_eq_true rfl) (c := 8) (zb_1 I4) (zs_1 I4) ⟨by decide, rfl⟩ (by omega) (c_Tape_append_1_b (d - 1) (by omega) U I4 (ov_kws hw (by decide +kernel)) b) ?_
  rintro _ z7 h8 ⟨rfl, I9, f6⟩
  show ov_R u d ov_m21 16 [(0, ov_r 0), (1, ov_l a), (3, ov_l b), (5, ov_l c)] [] z7 h8 (P_OF_feed_0_b F z h a b c)
  have f10 : (h8 1 1) = ov_fdn b (h3 1 1) 8 ∧ (h8 36 7) = (h3 36 7) ∧ (h8 90 2) = (h3 90 2) ∧ (h8 0 10) = (h3 0 10) ∧ (h8 0 11) = (h3 0 11) ∧ (h8 0 12) = (h3 0 12) ∧ (h8 0 13) = (h3 0 13) ∧ (h8 3 1) = (h3 3 1) ∧ (h8 36 8) = (h3 36 8) ∧ (h8 46 3) = (h3 46 3) ∧ (h8 46 4) = (h3 46 4) ∧ (h8 49 4) = (h3 49 4) ∧ (h8 49 5) = (h3 49 5) ∧ (h8 64 0) = (h3 64 0) ∧ (h8 76 0) = (h3 76 0) := f6
  clear f6
  refine ov_blk (ls2 := [(0, ov_r 0), (1, ov_l a), (3, ov_l b), (5, ov_l c)]) (st2 := [ov_r 0]) (pc2 := 17) b_21_16_1 rfl rfl ?_
  refine ov_getf (v := ov_r 1) d_21_17 fl_OF_12 (zb_0 I9) (zs_0 I9) (congrArg ov_r (rg_0_0 I9)) ?_
  refine ov_blk (ls2 := [(0, ov_r 0), (1, ov_l a), (3, ov_l b), (5, ov_l c)]) (st2 := [ov_l c, ov_r 1]) (pc2 := 22) b_21_20_1 rfl rfl ?_
  refine ov_cV (as := [ov_l c]) (st := []) (d2 := d - 1) d_21_22 lk_OF_101 rfl (Nat.le_of_ble_eq_true rfl) (c := 8) (zb_1 I9) (zs_1 I9) ⟨by decide, rfl⟩ (by omega) (c_Tape_append_1_b (d - 1) (by omega) U I9 (ov_kws hw (by decide +kernel)) c) ?_
  rintro _ z12 h13 ⟨rfl, I14, f11⟩
  show ov_R u d ov_m21 25 [(0, ov_r 0), (1, ov_l a), (3, ov_l b), (5, ov_l c)] [] z12 h13 (P_OF_feed_0_b F z h a b c)
  have f15 : (h13 1 1) = ov_fdn c (h8 1 1) 8 ∧ (h13 36 7) = (h8 36 7) ∧ (h13 90 2) = (h8 90 2) ∧ (h13 0 10) = (h8 0 10) ∧ (h13 0 11) = (h8 0 11) ∧ (h13 0 12) = (h8 0 12) ∧ (h13 0 13) = (h8 0 13) ∧ (h13 3 1) = (h8 3 1) ∧ (h13 36 8) = (h8 36 8) ∧ (h13 46 3) = (h8 46 3) ∧ (h13 46 4) = (h8 46 4) ∧ (h13 49 4) = (h8 49 4) ∧ (h13 49 5) = (h8 49 5) ∧ (h13 64 0) = (h8 64 0) ∧ (h13 76 0) = (h8 76 0) := f11
  clear f11
  refine ov_blk (ls2 := [(0, ov_r 0), (1, ov_l a), (3, ov_l b), (5, ov_l c)]) (st2 := [ov_r 0]) (pc2 := 26) b_21_25_1 rfl rfl ?_
  refine ov_getf (v := ov_r 1) d_21_26 fl_OF_12 (zb_0 I14) (zs_0 I14) (congrArg ov_r (rg_0_0 I14)) ?_
  refine ov_getf (v := ov_i (h13 1 1)) d_21_29 fl_OF_105 (zb_1 I14) (zs_1 I14) rfl ?_
  have g16 := rg_1_1 I14
  have ff : (h13 1 1) = ov_fdn c (ov_fdn b (ov_fdn a (h 1 1) 8) 8) 8 := by simp only [*]
  exact ov_reti (st := []) d_21_32 rfl ⟨_, rfl, I14, (by show (h13 1 1) = (h13 1 1) ∧ (h13 1 1) = ov_fdn c (ov_fdn b (ov_fdn a (h 1 1) 8) 8) 8 ∧ (h13 36 7) = (h 36 7) ∧ (h13 90 2) = (h 90 2) ∧ (h13 0 10) = (h 0 10) ∧ (h13 0 11) = (h 0 11) ∧ (h13 0 12) = (h 0 12) ∧ (h13 0 13) = (h 0 13) ∧ (h13 3 1) = (h 3 1) ∧ (h13 36 8) = (h 36 8) ∧ (h13 46 3) = (h 46 3) ∧ (h13 46 4) = (h 46 4) ∧ (h13 49 4) = (h 49 4) ∧ (h13 49 5) = (h 49 5) ∧ (h13 64 0) = (h 64 0) ∧ (h13 76 0) = (h 76 0); omega)⟩

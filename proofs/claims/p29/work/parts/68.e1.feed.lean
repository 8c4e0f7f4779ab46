
abbrev P_fTape_append_1 (F : ov_H) (z : ov_Z) (h : ov_H) (w : Int) : Option ov_V → ov_Z → ov_H → Prop := fun r0 z' h' => r0 = none ∧ ov_I F z' h' ∧ (∀ a : Int, (a < 1 ∨ 2 < a) → h' a = h a) ∧ ((h' 1 1) = ov_fdn w (h 1 1) 8) ∧ ((h' 2) = ov_fdr w (h 1 1) (h 2) 8)
set_option maxHeartbeats 4000000 in
theorem c_fTape_append_1 {u : ov_U} {F : ov_H} {z : ov_Z} {h : ov_H} (d : Nat) (hd : 0 ≤ d) (U : ov_cap u) (I : ov_I F z h) (hw : ov_kw 6 F) (w : Int) : ov_T u d ov_m22 [ov_r 1, ov_l w] z h (P_fTape_append_1 F z h w) := by
  refine ov_en rfl (Nat.le_of_ble_eq_true rfl) ?_
  show ov_R u d ov_m22 0 [(0, ov_r 1), (1, ov_l w)] [] z h (P_fTape_append_1 F z h w)
  refine ov_blk (ls2 := [(0, ov_r 1), (1, ov_l w), (3, ov_i 56)]) (st2 := []) (pc2 := 3) b_22_0_2 rfl rfl ?_
  have fz : ov_fdn w (h 1 1) (Int.toNat ((56 - 56) / 8)) = (h 1 1) := rfl
  have L4 : ∀ (n1 : Nat) (x3 : Int) (z5 : ov_Z) (h6 : ov_H) (I7 : ov_I F z5 h6) (fr8 : ∀ a : Int, (a < 1 ∨ 2 < a) → h6 a = h a) (xr : (h6 2) = ov_fdr w (h 1 1) (h 2) (Int.toNat ((56 - x3) / 8))) (q3 : -8 ≤ x3 ∧ x3 ≤ 56 ∧ x3 % 8 = 0 ∧ (h6 1 1) = ov_fdn w (h 1 1) (Int.toNat ((56 - x3) / 8))), x3 + 8 < (n1 : Int) → ov_R u d ov_m22 3 [(0, ov_r 1), (1, ov_l w), (3, ov_i x3)] [] z5 h6 (P_fTape_append_1 F z h w) := by
    intro n1
    induction n1 with
    | zero =>
      intro x3 z5 h6 I7 fr8 xr q3 hn9
      exact absurd hn9 (by omega)
    | succ n1 ih2 =>
      intro x3 z5 h6 I7 fr8 xr q3 hn9
      refine ov_blk (ls2 := [(0, ov_r 1), (1, ov_l w), (3, ov_i x3)]) (st2 := [ov_i x3]) (pc2 := 4) b_22_3_1 rfl rfl ?_
      refine ov_iflt (tgt := 76) d_22_4 (by decide) (by omega) (fun c10 => ?_) (fun c10 => ?_)
      · skip
        have f8 : (Int.toNat ((56 - x3) / 8)) = 8 := by omega
        have fe : ov_fdn w (h 1 1) (Int.toNat ((56 - x3) / 8)) = ov_fdn w (h 1 1) 8 := by rw [f8]
        exact ov_retv (st := []) d_22_76 rfl ⟨rfl, I7, (fun a ca => (fr8 a ca)), (by show (h6 1 1) = ov_fdn w (h 1 1) 8; omega), (by rw [f8] at xr; exact xr)⟩
      · skip
        refine ov_blk (ls2 := [(0, ov_r 1), (1, ov_l w), (3, ov_i x3)]) (st2 := [ov_l (ov_lushr w x3)]) (pc2 := 10) b_22_7_3 rfl rfl ?_
        refine ov_ldc2 (n := 255) d_22_10 kc_Tape_15 ?_
        refine ov_blk (ls2 := [(0, ov_r 1), (1, ov_l w), (3, ov_i x3)]) (st2 := [ov_i (ov_land (ov_lushr w x3) 255)]) (pc2 := 15) b_22_13_2 rfl rfl ?_
        refine ov_havw (fun w11 gw11 qw11 => ?_)
        refine ov_blk (ls2 := [(0, ov_r 1), (1, ov_l w), (3, ov_i x3), (4, ov_i (ov_i2c w11))]) (st2 := []) (pc2 := 18) b_22_15_2 rfl rfl ?_
        have g12 := ov_i2cg w11
        have fs : (ov_fdn w (h 1 1) (Int.toNat ((56 - x3) / 8)) < 1000 → ((ov_bt w x3) = 10 ∨ (32 ≤ (ov_bt w x3) ∧ (ov_bt w x3) ≤ 126)) → ov_fdn w (h 1 1) (Int.toNat ((56 - (x3 + (-8))) / 8)) = ov_fdn w (h 1 1) (Int.toNat ((56 - x3) / 8)) + 1) ∧ (1000 ≤ ov_fdn w (h 1 1) (Int.toNat ((56 - x3) / 8)) ∨ ¬ ((ov_bt w x3) = 10 ∨ (32 ≤ (ov_bt w x3) ∧ (ov_bt w x3) ≤ 126)) → ov_fdn w (h 1 1) (Int.toNat ((56 - (x3 + (-8))) / 8)) = ov_fdn w (h 1 1) (Int.toNat ((56 - x3) / 8))) := ov_fd_step (by omega) (by omega)
        have fl := ov_lubI (w := w) (s := x3) (by omega)
        have fr := ov_bt_rng w x3
        have fw : w11 = ov_bt w x3 := by omega
        have fc : (ov_i2c w11) = ov_bt w x3 := by rw [ov_i2c_id (by omega)]; exact fw
        refine ov_blk (ls2 := [(0, ov_r 1), (1, ov_l w), (3, ov_i x3), (4, ov_i (ov_i2c w11))]) (st2 := [ov_r 1]) (pc2 := 19) b_22_18_1 rfl rfl ?_
        refine ov_getf (v := ov_i (h6 1 1)) d_22_19 fl_Tape_17 (zb_1 I7) (zs_1 I7) rfl ?_
        have g13 := rg_1_1 I7
        refine ov_blk (ls2 := [(0, ov_r 1), (1, ov_l w), (3, ov_i x3), (4, ov_i (ov_i2c w11))]) (st2 := [ov_i 1000, ov_i (h6 1 1)]) (pc2 := 25) b_22_22_1 rfl rfl ?_
        refine ov_icge (tgt := 70) d_22_25 (by decide) (by omega) (by omega) (fun c14 => ?_) (fun c14 => ?_)
        · skip
          refine ov_blk (ls2 := [(0, ov_r 1), (1, ov_l w), (3, ov_i (x3 + (-8))), (4, ov_i (ov_i2c w11))]) (st2 := []) (pc2 := 73) b_22_70_1 rfl rfl ?_
          refine ov_goto (tgt := 3) d_22_73 (by decide) ?_
          refine ov_sub (ls2 := [(0, ov_r 1), (1, ov_l w), (3, ov_i (x3 + (-8)))]) (List.Sublist.subset (by repeat (first | exact List.Sublist.refl _ | apply List.Sublist.cons_cons | apply List.Sublist.cons))) ?_
          exact ih2 (x3 + (-8)) _ _ I7 (fun a ca => (fr8 a ca)) (by show h6 2 = ov_fdr w (h 1 1) (h 2) (Int.toNat ((56 - (x3 + (-8))) / 8)); rw [(ov_fr_step (w := w) (n := (h 1 1)) (r := h 2) (s := x3) (by omega) (by omega)).2 (by omega)]; exact xr) (by show -8 ≤ (x3 + (-8)) ∧ (x3 + (-8)) ≤ 56 ∧ (x3 + (-8)) % 8 = 0 ∧ (h6 1 1) = ov_fdn w (h 1 1) (Int.toNat ((56 - (x3 + (-8))) / 8)); omega) (by omega)
        · skip
          refine ov_blk (ls2 := [(0, ov_r 1), (1, ov_l w), (3, ov_i x3), (4, ov_i (ov_i2c w11))]) (st2 := [ov_i 10, ov_i (ov_i2c w11)]) (pc2 := 32) b_22_28_2 rfl rfl ?_
          refine ov_iceq (tgt := 49) d_22_32 (by decide) (by omega) (by omega) (fun c15 => ?_) (fun c15 => ?_)
          · skip
            refine ov_blk (ls2 := [(0, ov_r 1), (1, ov_l w), (3, ov_i x3), (4, ov_i (ov_i2c w11))]) (st2 := [ov_r 1]) (pc2 := 50) b_22_49_1 rfl rfl ?_
            refine ov_getf (v := ov_r 2) d_22_50 fl_Tape_9 (zb_1 I7) (zs_1 I7) (congrArg ov_r (rg_1_0 I7)) ?_
            refine ov_blk (ls2 := [(0, ov_r 1), (1, ov_l w), (3, ov_i x3), (4, ov_i (ov_i2c w11))]) (st2 := [ov_r 1, ov_r 2]) (pc2 := 54) b_22_53_1 rfl rfl ?_
            refine ov_getf (v := ov_i (h6 1 1)) d_22_54 fl_Tape_17 (zb_1 I7) (zs_1 I7) rfl ?_
            refine ov_blk (ls2 := [(0, ov_r 1), (1, ov_l w), (3, ov_i x3), (4, ov_i (ov_i2c w11))]) (st2 := [ov_i (ov_i2c w11), ov_i (h6 1 1), ov_r 2]) (pc2 := 59) b_22_57_1 rfl rfl ?_
            refine ov_cast d_22_59 (zb_2 I7) (zs_2 I7) (by omega) (by omega) ?_
            have I17 := ua_2 (k := (h6 1 1)) (x := (ov_i2c w11)) I7 (by omega) (hw 2 (by decide +kernel))
            refine ov_blk (ls2 := [(0, ov_r 1), (1, ov_l w), (3, ov_i x3), (4, ov_i (ov_i2c w11))]) (st2 := [ov_r 1, ov_r 1]) (pc2 := 62) b_22_60_2 rfl rfl ?_
            refine ov_getf (v := ov_i (h6 1 1)) d_22_62 fl_Tape_17 (zb_1 I17) (zs_1 I17) rfl ?_
            refine ov_blk (ls2 := [(0, ov_r 1), (1, ov_l w), (3, ov_i x3), (4, ov_i (ov_i2c w11))]) (st2 := [ov_i ((h6 1 1) + 1), ov_r 1]) (pc2 := 67) b_22_65_2 rfl rfl ?_
            refine ov_putf (x := ((h6 1 1) + 1)) d_22_67 fl_Tape_17 (zb_1 I17) (zs_1 I17) rfl nk_0 rfl ?_
            have I19 := up_1_1 (x := ((h6 1 1) + 1)) I17 (by omega) (hw 1 (by decide +kernel))
            show ov_R u d ov_m22 70 [(0, ov_r 1), (1, ov_l w), (3, ov_i x3), (4, ov_i (ov_i2c w11))] [] z5 (ov_up (ov_up h6 2 (h6 1 1) (ov_i2c w11)) 1 1 ((h6 1 1) + 1)) (P_fTape_append_1 F z h w)
            refine ov_blk (ls2 := [(0, ov_r 1), (1, ov_l w), (3, ov_i (x3 + (-8))), (4, ov_i (ov_i2c w11))]) (st2 := []) (pc2 := 73) b_22_70_1 rfl rfl ?_
            refine ov_goto (tgt := 3) d_22_73 (by decide) ?_
            refine ov_sub (ls2 := [(0, ov_r 1), (1, ov_l w), (3, ov_i (x3 + (-8)))]) (List.Sublist.subset (by repeat (first | exact List.Sublist.refl _ | apply List.Sublist.cons_cons | apply List.Sublist.cons))) ?_
            have qn : h6 1 1 = ov_fdn w (h 1 1) (Int.toNat ((56 - x3) / 8)) := by omega
            exact ih2 (x3 + (-8)) _ _ I19 (fun a ca => Eq.trans (by show (ov_up (ov_up h6 2 (h6 1 1) (ov_i2c w11)) 1 1 ((h6 1 1) + 1)) a = h6 a; rw [ov_up_ne (by omega), ov_up_ne (by omega)]) (fr8 a ca)) (by show (ov_up (ov_up h6 2 (h6 1 1) (ov_i2c w11)) 1 1 ((h6 1 1) + 1)) 2 = ov_fdr w (h 1 1) (h 2) (Int.toNat ((56 - (x3 + (-8))) / 8)); rw [(ov_fr_step (w := w) (n := (h 1 1)) (r := h 2) (s := x3) (by omega) (by omega)).1 (by omega) (by omega), show (ov_up (ov_up h6 2 (h6 1 1) (ov_i2c w11)) 1 1 ((h6 1 1) + 1)) 2 = (ov_rs (h6 2) (h6 1 1) (ov_i2c w11)) from (Eq.trans (show (ov_up (ov_up h6 2 (h6 1 1) (ov_i2c w11)) 1 1 ((h6 1 1) + 1)) 2 = (ov_up h6 2 (h6 1 1) (ov_i2c w11)) 2 from rfl) (Eq.trans (ov_up_row h6 2 (h6 1 1) (ov_i2c w11)) (congrArg (fun f => ov_rs f (h6 1 1) (ov_i2c w11)) rfl))), xr, qn, fc]) (by show -8 ≤ (x3 + (-8)) ∧ (x3 + (-8)) ≤ 56 ∧ (x3 + (-8)) % 8 = 0 ∧ ((h6 1 1) + 1) = ov_fdn w (h 1 1) (Int.toNat ((56 - (x3 + (-8))) / 8)); omega) (by omega)
          · skip
            refine ov_blk (ls2 := [(0, ov_r 1), (1, ov_l w), (3, ov_i x3), (4, ov_i (ov_i2c w11))]) (st2 := [ov_i 32, ov_i (ov_i2c w11)]) (pc2 := 39) b_22_35_2 rfl rfl ?_
            refine ov_iclt (tgt := 70) d_22_39 (by decide) (by omega) (by omega) (fun c20 => ?_) (fun c20 => ?_)
            · skip
              refine ov_blk (ls2 := [(0, ov_r 1), (1, ov_l w), (3, ov_i (x3 + (-8))), (4, ov_i (ov_i2c w11))]) (st2 := []) (pc2 := 73) b_22_70_1 rfl rfl ?_
              refine ov_goto (tgt := 3) d_22_73 (by decide) ?_
              refine ov_sub (ls2 := [(0, ov_r 1), (1, ov_l w), (3, ov_i (x3 + (-8)))]) (List.Sublist.subset (by repeat (first | exact List.Sublist.refl _ | apply List.Sublist.cons_cons | apply List.Sublist.cons))) ?_
              exact ih2 (x3 + (-8)) _ _ I7 (fun a ca => (fr8 a ca)) (by show h6 2 = ov_fdr w (h 1 1) (h 2) (Int.toNat ((56 - (x3 + (-8))) / 8)); rw [(ov_fr_step (w := w) (n := (h 1 1)) (r := h 2) (s := x3) (by omega) (by omega)).2 (by omega)]; exact xr) (by show -8 ≤ (x3 + (-8)) ∧ (x3 + (-8)) ≤ 56 ∧ (x3 + (-8)) % 8 = 0 ∧ (h6 1 1) = ov_fdn w (h 1 1) (Int.toNat ((56 - (x3 + (-8))) / 8)); omega) (by omega)
            · skip
              refine ov_blk (ls2 := [(0, ov_r 1), (1, ov_l w), (3, ov_i x3), (4, ov_i (ov_i2c w11))]) (st2 := [ov_i 126, ov_i (ov_i2c w11)]) (pc2 := 46) b_22_42_2 rfl rfl ?_
              refine ov_icgt (tgt := 70) d_22_46 (by decide) (by omega) (by omega) (fun c21 => ?_) (fun c21 => ?_)
              · skip
                refine ov_blk (ls2 := [(0, ov_r 1), (1, ov_l w), (3, ov_i (x3 + (-8))), (4, ov_i (ov_i2c w11))]) (st2 := []) (pc2 := 73) b_22_70_1 rfl rfl ?_
                refine ov_goto (tgt := 3) d_22_73 (by decide) ?_
                refine ov_sub (ls2 := [(0, ov_r 1), (1, ov_l w), (3, ov_i (x3 + (-8)))]) (List.Sublist.subset (by repeat (first | exact List.Sublist.refl _ | apply List.Sublist.cons_cons | apply List.Sublist.cons))) ?_
                exact ih2 (x3 + (-8)) _ _ I7 (fun a ca => (fr8 a ca)) (by show h6 2 = ov_fdr w (h 1 1) (h 2) (Int.toNat ((56 - (x3 + (-8))) / 8)); rw [(ov_fr_step (w := w) (n := (h 1 1)) (r := h 2) (s := x3) (by omega) (by omega)).2 (by omega)]; exact xr) (by show -8 ≤ (x3 + (-8)) ∧ (x3 + (-8)) ≤ 56 ∧ (x3 + (-8)) % 8 = 0 ∧ (h6 1 1) = ov_fdn w (h 1 1) (Int.toNat ((56 - (x3 + (-8))) / 8)); omega) (by omega)
              · skip
                refine ov_blk (ls2 := [(0, ov_r 1), (1, ov_l w), (3, ov_i x3), (4, ov_i (ov_i2c w11))]) (st2 := [ov_r 1]) (pc2 := 50) b_22_49_1 rfl rfl ?_
                refine ov_getf (v := ov_r 2) d_22_50 fl_Tape_9 (zb_1 I7) (zs_1 I7) (congrArg ov_r (rg_1_0 I7)) ?_
                refine ov_blk (ls2 := [(0, ov_r 1), (1, ov_l w), (3, ov_i x3), (4, ov_i (ov_i2c w11))]) (st2 := [ov_r 1, ov_r 2]) (pc2 := 54) b_22_53_1 rfl rfl ?_
                refine ov_getf (v := ov_i (h6 1 1)) d_22_54 fl_Tape_17 (zb_1 I7) (zs_1 I7) rfl ?_
                refine ov_blk (ls2 := [(0, ov_r 1), (1, ov_l w), (3, ov_i x3), (4, ov_i (ov_i2c w11))]) (st2 := [ov_i (ov_i2c w11), ov_i (h6 1 1), ov_r 2]) (pc2 := 59) b_22_57_1 rfl rfl ?_
                refine ov_cast d_22_59 (zb_2 I7) (zs_2 I7) (by omega) (by omega) ?_
                have I23 := ua_2 (k := (h6 1 1)) (x := (ov_i2c w11)) I7 (by omega) (hw 2 (by decide +kernel))
                refine ov_blk (ls2 := [(0, ov_r 1), (1, ov_l w), (3, ov_i x3), (4, ov_i (ov_i2c w11))]) (st2 := [ov_r 1, ov_r 1]) (pc2 := 62) b_22_60_2 rfl rfl ?_
                refine ov_getf (v := ov_i (h6 1 1)) d_22_62 fl_Tape_17 (zb_1 I23) (zs_1 I23) rfl ?_
                refine ov_blk (ls2 := [(0, ov_r 1), (1, ov_l w), (3, ov_i x3), (4, ov_i (ov_i2c w11))]) (st2 := [ov_i ((h6 1 1) + 1), ov_r 1]) (pc2 := 67) b_22_65_2 rfl rfl ?_
                refine ov_putf (x := ((h6 1 1) + 1)) d_22_67 fl_Tape_17 (zb_1 I23) (zs_1 I23) rfl nk_0 rfl ?_
                have I25 := up_1_1 (x := ((h6 1 1) + 1)) I23 (by omega) (hw 1 (by decide +kernel))
                show ov_R u d ov_m22 70 [(0, ov_r 1), (1, ov_l w), (3, ov_i x3), (4, ov_i (ov_i2c w11))] [] z5 (ov_up (ov_up h6 2 (h6 1 1) (ov_i2c w11)) 1 1 ((h6 1 1) + 1)) (P_fTape_append_1 F z h w)
                refine ov_blk (ls2 := [(0, ov_r 1), (1, ov_l w), (3, ov_i (x3 + (-8))), (4, ov_i (ov_i2c w11))]) (st2 := []) (pc2 := 73) b_22_70_1 rfl rfl ?_
                refine ov_goto (tgt := 3) d_22_73 (by decide) ?_
                refine ov_sub (ls2 := [(0, ov_r 1), (1, ov_l w), (3, ov_i (x3 + (-8)))]) (List.Sublist.subset (by repeat (first | exact List.Sublist.refl _ | apply List.Sublist.cons_cons | apply List.Sublist.cons))) ?_
                have qn : h6 1 1 = ov_fdn w (h 1 1) (Int.toNat ((56 - x3) / 8)) := by omega
                exact ih2 (x3 + (-8)) _ _ I25 (fun a ca => Eq.trans (by show (ov_up (ov_up h6 2 (h6 1 1) (ov_i2c w11)) 1 1 ((h6 1 1) + 1)) a = h6 a; rw [ov_up_ne (by omega), ov_up_ne (by omega)]) (fr8 a ca)) (by show (ov_up (ov_up h6 2 (h6 1 1) (ov_i2c w11)) 1 1 ((h6 1 1) + 1)) 2 = ov_fdr w (h 1 1) (h 2) (Int.toNat ((56 - (x3 + (-8))) / 8)); rw [(ov_fr_step (w := w) (n := (h 1 1)) (r := h 2) (s := x3) (by omega) (by omega)).1 (by omega) (by omega), show (ov_up (ov_up h6 2 (h6 1 1) (ov_i2c w11)) 1 1 ((h6 1 1) + 1)) 2 = (ov_rs (h6 2) (h6 1 1) (ov_i2c w11)) from (Eq.trans (show (ov_up (ov_up h6 2 (h6 1 1) (ov_i2c w11)) 1 1 ((h6 1 1) + 1)) 2 = (ov_up h6 2 (h6 1 1) (ov_i2c w11)) 2 from rfl) (Eq.trans (ov_up_row h6 2 (h6 1 1) (ov_i2c w11)) (congrArg (fun f => ov_rs f (h6 1 1) (ov_i2c w11)) rfl))), xr, qn, fc]) (by show -8 ≤ (x3 + (-8)) ∧ (x3 + (-8)) ≤ 56 ∧ (x3 + (-8)) % 8 = 0 ∧ ((h6 1 1) + 1) = ov_fdn w (h 1 1) (Int.toNat ((56 - (x3 + (-8))) / 8)); omega) (by omega)
  exact L4 100 56 _ _ I (fun a ca => rfl) rfl (by show -8 ≤ 56 ∧ 56 ≤ 56 ∧ 56 % 8 = 0 ∧ (h 1 1) = ov_fdn w (h 1 1) (Int.toNat ((56 - 56) / 8)); omega) (by omega)
abbrev P_fMo_lay_90 (F : ov_H × ov_Z) (z : ov_Z) (h : ov_H) (w : Int) : Option ov_V → ov_Z → ov_H → Prop := fun r0 z' h' => r0 = none ∧ ov_N F z' h' ∧ (∀ a : Int, (a < 90 ∨ 91 < a) → h' a = h a) ∧ ((h' 90 2) = ov_fdn w (h 90 2) 8) ∧ ((h' 91) = ov_fdr w (h 90 2) (h 91) 8) ∧ (∀ k : Int, k ≠ 2 → (h' 90) k = (h 90) k)
set_option maxHeartbeats 4000000 in
theorem c_fMo_lay_90 {u : ov_U} {F : ov_H × ov_Z} {z : ov_Z} {h : ov_H} (d : Nat) (hd : 0 ≤ d) (U : ov_cap u) (I : ov_N F z h) (w : Int) : ov_T u d ov_m201 [ov_r 90, ov_l w] z h (P_fMo_lay_90 F z h w) := by
  refine ov_en rfl (Nat.le_of_ble_eq_true rfl) ?_
  show ov_R u d ov_m201 0 [(0, ov_r 90), (1, ov_l w)] [] z h (P_fMo_lay_90 F z h w)
  refine ov_blk (ls2 := [(0, ov_r 90), (1, ov_l w), (3, ov_i 56)]) (st2 := []) (pc2 := 3) b_201_0_2 rfl rfl ?_
  have fz : ov_fdn w (h 90 2) (Int.toNat ((56 - 56) / 8)) = (h 90 2) := rfl
  have L4 : ∀ (n1 : Nat) (x3 : Int) (z5 : ov_Z) (h6 : ov_H) (I7 : ov_N F z5 h6) (fr8 : ∀ a : Int, (a < 90 ∨ 91 < a) → h6 a = h a) (xr : (h6 91) = ov_fdr w (h 90 2) (h 91) (Int.toNat ((56 - x3) / 8))) (rkl90 : ∀ k : Int, k ≠ 2 → (h6 90) k = h 90 k) (q3 : -8 ≤ x3 ∧ x3 ≤ 56 ∧ x3 % 8 = 0 ∧ (h6 90 2) = ov_fdn w (h 90 2) (Int.toNat ((56 - x3) / 8))), x3 + 8 < (n1 : Int) → ov_R u d ov_m201 3 [(0, ov_r 90), (1, ov_l w), (3, ov_i x3)] [] z5 h6 (P_fMo_lay_90 F z h w) := by
    intro n1
    induction n1 with
    | zero =>
      intro x3 z5 h6 I7 fr8 xr rkl90 q3 hn9
      exact absurd hn9 (by omega)
    | succ n1 ih2 =>
      intro x3 z5 h6 I7 fr8 xr rkl90 q3 hn9
      refine ov_blk (ls2 := [(0, ov_r 90), (1, ov_l w), (3, ov_i x3)]) (st2 := [ov_i x3]) (pc2 := 4) b_201_3_1 rfl rfl ?_
      refine ov_iflt (tgt := 75) d_201_4 (by decide) (by omega) (fun c10 => ?_) (fun c10 => ?_)
      · skip
        have f8 : (Int.toNat ((56 - x3) / 8)) = 8 := by omega
        have fe : ov_fdn w (h 90 2) (Int.toNat ((56 - x3) / 8)) = ov_fdn w (h 90 2) 8 := by rw [f8]
        exact ov_retv (st := []) d_201_75 rfl ⟨rfl, I7, (fun a ca => (fr8 a ca)), (by show (h6 90 2) = ov_fdn w (h 90 2) 8; omega), (by rw [f8] at xr; exact xr), (fun k n0 => (rkl90 k n0))⟩
      · skip
        refine ov_blk (ls2 := [(0, ov_r 90), (1, ov_l w), (3, ov_i x3)]) (st2 := [ov_i (ov_lshr w x3)]) (pc2 := 11) b_201_7_4 rfl rfl ?_
        refine ov_blk (ls2 := [(0, ov_r 90), (1, ov_l w), (3, ov_i x3), (4, ov_i (ov_and (ov_lshr w x3) 255))]) (st2 := []) (pc2 := 17) b_201_11_3 rfl rfl ?_
        have g11 := ov_andg (ov_lshr w x3) 255
        have g12 := ov_and255 (ov_lshr w x3)
        have fs : (ov_fdn w (h 90 2) (Int.toNat ((56 - x3) / 8)) < 1000 → ((ov_bt w x3) = 10 ∨ (32 ≤ (ov_bt w x3) ∧ (ov_bt w x3) ≤ 126)) → ov_fdn w (h 90 2) (Int.toNat ((56 - (x3 + (-8))) / 8)) = ov_fdn w (h 90 2) (Int.toNat ((56 - x3) / 8)) + 1) ∧ (1000 ≤ ov_fdn w (h 90 2) (Int.toNat ((56 - x3) / 8)) ∨ ¬ ((ov_bt w x3) = 10 ∨ (32 ≤ (ov_bt w x3) ∧ (ov_bt w x3) ≤ 126)) → ov_fdn w (h 90 2) (Int.toNat ((56 - (x3 + (-8))) / 8)) = ov_fdn w (h 90 2) (Int.toNat ((56 - x3) / 8))) := ov_fd_step (by omega) (by omega)
        have fl := ov_lsbI (w := w) (s := x3) (by omega)
        have fr := ov_bt_rng w x3
        refine ov_blk (ls2 := [(0, ov_r 90), (1, ov_l w), (3, ov_i x3), (4, ov_i (ov_and (ov_lshr w x3) 255))]) (st2 := [ov_i 10, ov_i (ov_and (ov_lshr w x3) 255)]) (pc2 := 21) b_201_17_2 rfl rfl ?_
        refine ov_iceq (tgt := 38) d_201_21 (by decide) (by omega) (by omega) (fun c13 => ?_) (fun c13 => ?_)
        · skip
          refine ov_blk (ls2 := [(0, ov_r 90), (1, ov_l w), (3, ov_i x3), (4, ov_i (ov_and (ov_lshr w x3) 255))]) (st2 := [ov_r 90]) (pc2 := 39) b_201_38_1 rfl rfl ?_
          refine ov_getf (v := ov_i (h6 90 2)) d_201_39 fl_Mo_11 (zb_90 I7) (zs_90 I7) rfl ?_
          have g14 := rg_90_2 I7
          refine ov_blk (ls2 := [(0, ov_r 90), (1, ov_l w), (3, ov_i x3), (4, ov_i (ov_and (ov_lshr w x3) 255))]) (st2 := [ov_i 1000, ov_i (h6 90 2)]) (pc2 := 45) b_201_42_1 rfl rfl ?_
          refine ov_icge (tgt := 69) d_201_45 (by decide) (by omega) (by omega) (fun c15 => ?_) (fun c15 => ?_)
          · skip
            refine ov_blk (ls2 := [(0, ov_r 90), (1, ov_l w), (3, ov_i (x3 + (-8))), (4, ov_i (ov_and (ov_lshr w x3) 255))]) (st2 := []) (pc2 := 72) b_201_69_1 rfl rfl ?_
            refine ov_goto (tgt := 3) d_201_72 (by decide) ?_
            refine ov_sub (ls2 := [(0, ov_r 90), (1, ov_l w), (3, ov_i (x3 + (-8)))]) (List.Sublist.subset (by repeat (first | exact List.Sublist.refl _ | apply List.Sublist.cons_cons | apply List.Sublist.cons))) ?_
            exact ih2 (x3 + (-8)) _ _ I7 (fun a ca => (fr8 a ca)) (by show h6 91 = ov_fdr w (h 90 2) (h 91) (Int.toNat ((56 - (x3 + (-8))) / 8)); rw [(ov_fr_step (w := w) (n := (h 90 2)) (r := h 91) (s := x3) (by omega) (by omega)).2 (by omega)]; exact xr) (fun k n0 => (rkl90 k n0)) (by show -8 ≤ (x3 + (-8)) ∧ (x3 + (-8)) ≤ 56 ∧ (x3 + (-8)) % 8 = 0 ∧ (h6 90 2) = ov_fdn w (h 90 2) (Int.toNat ((56 - (x3 + (-8))) / 8)); omega) (by omega)
          · skip
            refine ov_blk (ls2 := [(0, ov_r 90), (1, ov_l w), (3, ov_i x3), (4, ov_i (ov_and (ov_lshr w x3) 255))]) (st2 := [ov_r 90]) (pc2 := 49) b_201_48_1 rfl rfl ?_
            refine ov_getf (v := ov_r 91) d_201_49 fl_Mo_14 (zb_90 I7) (zs_90 I7) (congrArg ov_r (rg_90_1 I7)) ?_
            refine ov_blk (ls2 := [(0, ov_r 90), (1, ov_l w), (3, ov_i x3), (4, ov_i (ov_and (ov_lshr w x3) 255))]) (st2 := [ov_r 90, ov_r 91]) (pc2 := 53) b_201_52_1 rfl rfl ?_
            refine ov_getf (v := ov_i (h6 90 2)) d_201_53 fl_Mo_11 (zb_90 I7) (zs_90 I7) rfl ?_
            refine ov_blk (ls2 := [(0, ov_r 90), (1, ov_l w), (3, ov_i x3), (4, ov_i (ov_and (ov_lshr w x3) 255))]) (st2 := [ov_i (ov_and (ov_lshr w x3) 255), ov_i (h6 90 2), ov_r 91]) (pc2 := 58) b_201_56_1 rfl rfl ?_
            refine ov_iast d_201_58 (zb_91 I7) (zs_91 I7) (by omega) ?_
            have I17 := ua_91 (k := (h6 90 2)) (x := (ov_and (ov_lshr w x3) 255)) I7 (by omega)
            refine ov_blk (ls2 := [(0, ov_r 90), (1, ov_l w), (3, ov_i x3), (4, ov_i (ov_and (ov_lshr w x3) 255))]) (st2 := [ov_r 90, ov_r 90]) (pc2 := 61) b_201_59_2 rfl rfl ?_
            refine ov_getf (v := ov_i (h6 90 2)) d_201_61 fl_Mo_11 (zb_90 I17) (zs_90 I17) rfl ?_
            refine ov_blk (ls2 := [(0, ov_r 90), (1, ov_l w), (3, ov_i x3), (4, ov_i (ov_and (ov_lshr w x3) 255))]) (st2 := [ov_i ((h6 90 2) + 1), ov_r 90]) (pc2 := 66) b_201_64_2 rfl rfl ?_
            refine ov_putf (x := ((h6 90 2) + 1)) d_201_66 fl_Mo_11 (zb_90 I17) (zs_90 I17) rfl nk_0 rfl ?_
            have I19 := up_90_2 (x := ((h6 90 2) + 1)) I17 (by omega)
            show ov_R u d ov_m201 69 [(0, ov_r 90), (1, ov_l w), (3, ov_i x3), (4, ov_i (ov_and (ov_lshr w x3) 255))] [] z5 (ov_up (ov_up h6 91 (h6 90 2) (ov_and (ov_lshr w x3) 255)) 90 2 ((h6 90 2) + 1)) (P_fMo_lay_90 F z h w)
            refine ov_blk (ls2 := [(0, ov_r 90), (1, ov_l w), (3, ov_i (x3 + (-8))), (4, ov_i (ov_and (ov_lshr w x3) 255))]) (st2 := []) (pc2 := 72) b_201_69_1 rfl rfl ?_
            refine ov_goto (tgt := 3) d_201_72 (by decide) ?_
            refine ov_sub (ls2 := [(0, ov_r 90), (1, ov_l w), (3, ov_i (x3 + (-8)))]) (List.Sublist.subset (by repeat (first | exact List.Sublist.refl _ | apply List.Sublist.cons_cons | apply List.Sublist.cons))) ?_
            have qn : h6 90 2 = ov_fdn w (h 90 2) (Int.toNat ((56 - x3) / 8)) := by omega
            exact ih2 (x3 + (-8)) _ _ I19 (fun a ca => Eq.trans (by show (ov_up (ov_up h6 91 (h6 90 2) (ov_and (ov_lshr w x3) 255)) 90 2 ((h6 90 2) + 1)) a = h6 a; rw [ov_up_ne (by omega), ov_up_ne (by omega)]) (fr8 a ca)) (by show (ov_up (ov_up h6 91 (h6 90 2) (ov_and (ov_lshr w x3) 255)) 90 2 ((h6 90 2) + 1)) 91 = ov_fdr w (h 90 2) (h 91) (Int.toNat ((56 - (x3 + (-8))) / 8)); rw [(ov_fr_step (w := w) (n := (h 90 2)) (r := h 91) (s := x3) (by omega) (by omega)).1 (by omega) (by omega), show (ov_up (ov_up h6 91 (h6 90 2) (ov_and (ov_lshr w x3) 255)) 90 2 ((h6 90 2) + 1)) 91 = (ov_rs (h6 91) (h6 90 2) (ov_and (ov_lshr w x3) 255)) from (Eq.trans (show (ov_up (ov_up h6 91 (h6 90 2) (ov_and (ov_lshr w x3) 255)) 90 2 ((h6 90 2) + 1)) 91 = (ov_up h6 91 (h6 90 2) (ov_and (ov_lshr w x3) 255)) 91 from rfl) (Eq.trans (ov_up_row h6 91 (h6 90 2) (ov_and (ov_lshr w x3) 255)) (congrArg (fun f => ov_rs f (h6 90 2) (ov_and (ov_lshr w x3) 255)) rfl))), xr, qn, fl]) (fun k n0 => (Eq.trans (by show (ov_up (ov_up h6 91 (h6 90 2) (ov_and (ov_lshr w x3) 255)) 90 2 ((h6 90 2) + 1)) 90 k = h6 90 k; rw [ov_up_j n0, ov_up_ne (by decide)]) (rkl90 k n0))) (by show -8 ≤ (x3 + (-8)) ∧ (x3 + (-8)) ≤ 56 ∧ (x3 + (-8)) % 8 = 0 ∧ ((h6 90 2) + 1) = ov_fdn w (h 90 2) (Int.toNat ((56 - (x3 + (-8))) / 8)); omega) (by omega)
        · skip
          refine ov_blk (ls2 := [(0, ov_r 90), (1, ov_l w), (3, ov_i x3), (4, ov_i (ov_and (ov_lshr w x3) 255))]) (st2 := [ov_i 32, ov_i (ov_and (ov_lshr w x3) 255)]) (pc2 := 28) b_201_24_2 rfl rfl ?_
          refine ov_iclt (tgt := 69) d_201_28 (by decide) (by omega) (by omega) (fun c20 => ?_) (fun c20 => ?_)
          · skip
            refine ov_blk (ls2 := [(0, ov_r 90), (1, ov_l w), (3, ov_i (x3 + (-8))), (4, ov_i (ov_and (ov_lshr w x3) 255))]) (st2 := []) (pc2 := 72) b_201_69_1 rfl rfl ?_
            refine ov_goto (tgt := 3) d_201_72 (by decide) ?_
            refine ov_sub (ls2 := [(0, ov_r 90), (1, ov_l w), (3, ov_i (x3 + (-8)))]) (List.Sublist.subset (by repeat (first | exact List.Sublist.refl _ | apply List.Sublist.cons_cons | apply List.Sublist.cons))) ?_
            exact ih2 (x3 + (-8)) _ _ I7 (fun a ca => (fr8 a ca)) (by show h6 91 = ov_fdr w (h 90 2) (h 91) (Int.toNat ((56 - (x3 + (-8))) / 8)); rw [(ov_fr_step (w := w) (n := (h 90 2)) (r := h 91) (s := x3) (by omega) (by omega)).2 (by omega)]; exact xr) (fun k n0 => (rkl90 k n0)) (by show -8 ≤ (x3 + (-8)) ∧ (x3 + (-8)) ≤ 56 ∧ (x3 + (-8)) % 8 = 0 ∧ (h6 90 2) = ov_fdn w (h 90 2) (Int.toNat ((56 - (x3 + (-8))) / 8)); omega) (by omega)
          · skip
            refine ov_blk (ls2 := [(0, ov_r 90), (1, ov_l w), (3, ov_i x3), (4, ov_i (ov_and (ov_lshr w x3) 255))]) (st2 := [ov_i 126, ov_i (ov_and (ov_lshr w x3) 255)]) (pc2 := 35) b_201_31_2 rfl rfl ?_
            refine ov_icgt (tgt := 69) d_201_35 (by decide) (by omega) (by omega) (fun c21 => ?_) (fun c21 => ?_)
            · skip
              refine ov_blk (ls2 := [(0, ov_r 90), (1, ov_l w), (3, ov_i (x3 + (-8))), (4, ov_i (ov_and (ov_lshr w x3) 255))]) (st2 := []) (pc2 := 72) b_201_69_1 rfl rfl ?_
              refine ov_goto (tgt := 3) d_201_72 (by decide) ?_
              refine ov_sub (ls2 := [(0, ov_r 90), (1, ov_l w), (3, ov_i (x3 + (-8)))]) (List.Sublist.subset (by repeat (first | exact List.Sublist.refl _ | apply List.Sublist.cons_cons | apply List.Sublist.cons))) ?_
              exact ih2 (x3 + (-8)) _ _ I7 (fun a ca => (fr8 a ca)) (by show h6 91 = ov_fdr w (h 90 2) (h 91) (Int.toNat ((56 - (x3 + (-8))) / 8)); rw [(ov_fr_step (w := w) (n := (h 90 2)) (r := h 91) (s := x3) (by omega) (by omega)).2 (by omega)]; exact xr) (fun k n0 => (rkl90 k n0)) (by show -8 ≤ (x3 + (-8)) ∧ (x3 + (-8)) ≤ 56 ∧ (x3 + (-8)) % 8 = 0 ∧ (h6 90 2) = ov_fdn w (h 90 2) (Int.toNat ((56 - (x3 + (-8))) / 8)); omega) (by omega)
            · skip
              refine ov_blk (ls2 := [(0, ov_r 90), (1, ov_l w), (3, ov_i x3), (4, ov_i (ov_and (ov_lshr w x3) 255))]) (st2 := [ov_r 90]) (pc2 := 39) b_201_38_1 rfl rfl ?_
              refine ov_getf (v := ov_i (h6 90 2)) d_201_39 fl_Mo_11 (zb_90 I7) (zs_90 I7) rfl ?_
              have g22 := rg_90_2 I7
              refine ov_blk (ls2 := [(0, ov_r 90), (1, ov_l w), (3, ov_i x3), (4, ov_i (ov_and (ov_lshr w x3) 255))]) (st2 := [ov_i 1000, ov_i (h6 90 2)]) (pc2 := 45) b_201_42_1 rfl rfl ?_
              refine ov_icge (tgt := 69) d_201_45 (by decide) (by omega) (by omega) (fun c23 => ?_) (fun c23 => ?_)
              · skip
                refine ov_blk (ls2 := [(0, ov_r 90), (1, ov_l w), (3, ov_i (x3 + (-8))), (4, ov_i (ov_and (ov_lshr w x3) 255))]) (st2 := []) (pc2 := 72) b_201_69_1 rfl rfl ?_
                refine ov_goto (tgt := 3) d_201_72 (by decide) ?_
                refine ov_sub (ls2 := [(0, ov_r 90), (1, ov_l w), (3, ov_i (x3 + (-8)))]) (List.Sublist.subset (by repeat (first | exact List.Sublist.refl _ | apply List.Sublist.cons_cons | apply List.Sublist.cons))) ?_
                exact ih2 (x3 + (-8)) _ _ I7 (fun a ca => (fr8 a ca)) (by show h6 91 = ov_fdr w (h 90 2) (h 91) (Int.toNat ((56 - (x3 + (-8))) / 8)); rw [(ov_fr_step (w := w) (n := (h 90 2)) (r := h 91) (s := x3) (by omega) (by omega)).2 (by omega)]; exact xr) (fun k n0 => (rkl90 k n0)) (by show -8 ≤ (x3 + (-8)) ∧ (x3 + (-8)) ≤ 56 ∧ (x3 + (-8)) % 8 = 0 ∧ (h6 90 2) = ov_fdn w (h 90 2) (Int.toNat ((56 - (x3 + (-8))) / 8)); omega) (by omega)
              · skip
                refine ov_blk (ls2 := [(0, ov_r 90), (1, ov_l w), (3, ov_i x3), (4, ov_i (ov_and (ov_lshr w x3) 255))]) (st2 := [ov_r 90]) (pc2 := 49) b_201_48_1 rfl rfl ?_
                refine ov_getf (v := ov_r 91) d_201_49 fl_Mo_14 (zb_90 I7) (zs_90 I7) (congrArg ov_r (rg_90_1 I7)) ?_
                refine ov_blk (ls2 := [(0, ov_r 90), (1, ov_l w), (3, ov_i x3), (4, ov_i (ov_and (ov_lshr w x3) 255))]) (st2 := [ov_r 90, ov_r 91]) (pc2 := 53) b_201_52_1 rfl rfl ?_
                refine ov_getf (v := ov_i (h6 90 2)) d_201_53 fl_Mo_11 (zb_90 I7) (zs_90 I7) rfl ?_
                refine ov_blk (ls2 := [(0, ov_r 90), (1, ov_l w), (3, ov_i x3), (4, ov_i (ov_and (ov_lshr w x3) 255))]) (st2 := [ov_i (ov_and (ov_lshr w x3) 255), ov_i (h6 90 2), ov_r 91]) (pc2 := 58) b_201_56_1 rfl rfl ?_
                refine ov_iast d_201_58 (zb_91 I7) (zs_91 I7) (by omega) ?_
                have I25 := ua_91 (k := (h6 90 2)) (x := (ov_and (ov_lshr w x3) 255)) I7 (by omega)
                refine ov_blk (ls2 := [(0, ov_r 90), (1, ov_l w), (3, ov_i x3), (4, ov_i (ov_and (ov_lshr w x3) 255))]) (st2 := [ov_r 90, ov_r 90]) (pc2 := 61) b_201_59_2 rfl rfl ?_
                refine ov_getf (v := ov_i (h6 90 2)) d_201_61 fl_Mo_11 (zb_90 I25) (zs_90 I25) rfl ?_
                refine ov_blk (ls2 := [(0, ov_r 90), (1, ov_l w), (3, ov_i x3), (4, ov_i (ov_and (ov_lshr w x3) 255))]) (st2 := [ov_i ((h6 90 2) + 1), ov_r 90]) (pc2 := 66) b_201_64_2 rfl rfl ?_
                refine ov_putf (x := ((h6 90 2) + 1)) d_201_66 fl_Mo_11 (zb_90 I25) (zs_90 I25) rfl nk_0 rfl ?_
                have I27 := up_90_2 (x := ((h6 90 2) + 1)) I25 (by omega)
                show ov_R u d ov_m201 69 [(0, ov_r 90), (1, ov_l w), (3, ov_i x3), (4, ov_i (ov_and (ov_lshr w x3) 255))] [] z5 (ov_up (ov_up h6 91 (h6 90 2) (ov_and (ov_lshr w x3) 255)) 90 2 ((h6 90 2) + 1)) (P_fMo_lay_90 F z h w)
                refine ov_blk (ls2 := [(0, ov_r 90), (1, ov_l w), (3, ov_i (x3 + (-8))), (4, ov_i (ov_and (ov_lshr w x3) 255))]) (st2 := []) (pc2 := 72) b_201_69_1 rfl rfl ?_
                refine ov_goto (tgt := 3) d_201_72 (by decide) ?_
                refine ov_sub (ls2 := [(0, ov_r 90), (1, ov_l w), (3, ov_i (x3 + (-8)))]) (List.Sublist.subset (by repeat (first | exact List.Sublist.refl _ | apply List.Sublist.cons_cons | apply List.Sublist.cons))) ?_
                have qn : h6 90 2 = ov_fdn w (h 90 2) (Int.toNat ((56 - x3) / 8)) := by omega
                exact ih2 (x3 + (-8)) _ _ I27 (fun a ca => Eq.trans (by show (ov_up (ov_up h6 91 (h6 90 2) (ov_and (ov_lshr w x3) 255)) 90 2 ((h6 90 2) + 1)) a = h6 a; rw [ov_up_ne (by omega), ov_up_ne (by omega)]) (fr8 a ca)) (by show (ov_up (ov_up h6 91 (h6 90 2) (ov_and (ov_lshr w x3) 255)) 90 2 ((h6 90 2) + 1)) 91 = ov_fdr w (h 90 2) (h 91) (Int.toNat ((56 - (x3 + (-8))) / 8)); rw [(ov_fr_step (w := w) (n := (h 90 2)) (r := h 91) (s := x3) (by omega) (by omega)).1 (by omega) (by omega), show (ov_up (ov_up h6 91 (h6 90 2) (ov_and (ov_lshr w x3) 255)) 90 2 ((h6 90 2) + 1)) 91 = (ov_rs (h6 91) (h6 90 2) (ov_and (ov_lshr w x3) 255)) from (Eq.trans (show (ov_up (ov_up h6 91 (h6 90 2) (ov_and (ov_lshr w x3) 255)) 90 2 ((h6 90 2) + 1)) 91 = (ov_up h6 91 (h6 90 2) (ov_and (ov_lshr w x3) 255)) 91 from rfl) (Eq.trans (ov_up_row h6 91 (h6 90 2) (ov_and (ov_lshr w x3) 255)) (congrArg (fun f => ov_rs f (h6 90 2) (ov_and (ov_lshr w x3) 255)) rfl))), xr, qn, fl]) (fun k n0 => (Eq.trans (by show (ov_up (ov_up h6 91 (h6 90 2) (ov_and (ov_lshr w x3) 255)) 90 2 ((h6 90 2) + 1)) 90 k = h6 90 k; rw [ov_up_j n0, ov_up_ne (by decide)]) (rkl90 k n0))) (by show -8 ≤ (x3 + (-8)) ∧ (x3 + (-8)) ≤ 56 ∧ (x3 + (-8)) % 8 = 0 ∧ ((h6 90 2) + 1) = ov_fdn w (h 90 2) (Int.toNat ((56 - (x3 + (-8))) / 8)); omega) (by omega)
  exact L4 100 56 _ _ I (fun a ca => rfl) rfl (fun k n0 => rfl) (by show -8 ≤ 56 ∧ 56 ≤ 56 ∧ 56 % 8 = 0 ∧ (h 90 2) = ov_fdn w (h 90 2) (Int.toNat ((56 - 56) / 8)); omega) (by omega)
abbrev P_fOF_feed_0 (F : ov_H) (z : ov_Z) (h : ov_H) (a : Int) (b : Int) (c : Int) : Option ov_V → ov_Z → ov_H → Prop := fun r0 z' h' => ∃ r : Int, r0 = some (ov_i r) ∧ ov_I F z' h' ∧ (∀ a : Int, (a < 1 ∨ 2 < a) → h' a = h a) ∧ (r = (h' 1 1) ∧ (h' 1 1) = ov_fdn c (ov_fdn b (ov_fdn a (h 1 1) 8) 8) 8) ∧ ((h' 2) = ov_fdr c (ov_fdn b (ov_fdn a (h 1 1) 8) 8) (ov_fdr b (ov_fdn a (h 1 1) 8) (ov_fdr a (h 1 1) (h 2) 8) 8) 8)
set_option maxHeartbeats 4000000 in
theorem c_fOF_feed_0 {u : ov_U} {F : ov_H} {z : ov_Z} {h : ov_H} (d : Nat) (hd : 1 ≤ d) (U : ov_cap u) (I : ov_I F z h) (hw : ov_kw 6 F) (a : Int) (b : Int) (c : Int) : ov_T u d ov_m21 [ov_r 0, ov_l a, ov_l b, ov_l c] z h (P_fOF_feed_0 F z h a b c) := by
  refine ov_en rfl (Nat.le_of_ble_eq_true rfl) ?_
  show ov_R u d ov_m21 0 [(0, ov_r 0), (1, ov_l a), (3, ov_l b), (5, ov_l c)] [] z h (P_fOF_feed_0 F z h a b c)
  refine ov_blk (ls2 := [(0, ov_r 0), (1, ov_l a), (3, ov_l b), (5, ov_l c)]) (st2 := [ov_r 0]) (pc2 := 1) b_21_0_1 rfl rfl ?_
  refine ov_getf (v := ov_r 1) d_21_1 fl_OF_12 (zb_0 I) (zs_0 I) (congrArg ov_r (rg_0_0 I)) ?_
  refine ov_blk (ls2 := [(0, ov_r 0), (1, ov_l a), (3, ov_l b), (5, ov_l c)]) (st2 := [ov_l a, ov_r 1]) (pc2 := 5) b_21_4_1 rfl rfl ?_
  refine ov_cV (as := [ov_l a]) (st := []) (d2 := d - 1) d_21_5 lk_OF_101 rfl (Nat.le_of_ble_eq_true rfl) (c := 8) (zb_1 I) (zs_1 I) ⟨by decide, rfl⟩ (by omega) (c_fTape_append_1 (d - 1) (by omega) U I (ov_kws hw (by decide +kernel)) a) ?_
  rintro _ z1 h2 ⟨rfl, I3, y4, f5, y6⟩
  have fr7 : ∀ a : Int, (a < 1 ∨ 2 < a) → h2 a = h a := fun a ca => Eq.trans (y4 a (by omega)) rfl
  have f8 : (h2 1 1) = ov_fdn a (h 1 1) 8 := f5
  clear f5
  have y6_ : (h2 2) = ov_fdr a (h 1 1) (h 2) 8 := y6
  show ov_R u d ov_m21 8 [(0, ov_r 0), (1, ov_l a), (3, ov_l b), (5, ov_l c)] [] z1 h2 (P_fOF_feed_0 F z h a b c)
  refine ov_blk (ls2 := [(0, ov_r 0), (1, ov_l a), (3, ov_l b), (5, ov_l c)]) (st2 := [ov_r 0]) (pc2 := 9) b_21_8_1 rfl rfl ?_
  refine ov_getf (v := ov_r 1) d_21_9 fl_OF_12 (zb_0 I3) (zs_0 I3) (congrArg ov_r (rg_0_0 I3)) ?_
  refine ov_blk (ls2 := [(0, ov_r 0), (1, ov_l a), (3, ov_l b), (5, ov_l c)]) (st2 := [ov_l b, ov_r 1]) (pc2 := 13) b_21_12_1 rfl rfl ?_
  refine ov_cV (as := [ov_l b]) (st := []) (d2 := d - 1) d_21_13 lk_OF_101 rfl (Nat.le_of_ble_eq_true rfl) (c := 8) (zb_1 I3) (zs_1 I3) ⟨by decide, rfl⟩ (by omega) (c_fTape_append_1 (d - 1) (by omega) U I3 (ov_kws hw (by decide +kernel)) b) ?_
  rintro _ z9 h10 ⟨rfl, I11, y12, f13, y14⟩
  have fr15 : ∀ a : Int, (a < 1 ∨ 2 < a) → h10 a = h a := fun a ca => Eq.trans (y12 a (by omega)) (fr7 a ca)
  have f16 : (h10 1 1) = ov_fdn b (h2 1 1) 8 := f13
  clear f13
  have y14_ : (h10 2) = ov_fdr b (h2 1 1) (h2 2) 8 := y14
  show ov_R u d ov_m21 16 [(0, ov_r 0), (1, ov_l a), (3, ov_l b), (5, ov_l c)] [] z9 h10 (P_fOF_feed_0 F z h a b c)
  refine ov_blk (ls2 := [(0, ov_r 0), (1, ov_l a), (3, ov_l b), (5, ov_l c)]) (st2 := [ov_r 0]) (pc2 := 17) b_21_16_1 rfl rfl ?_
  refine ov_getf (v := ov_r 1) d_21_17 fl_OF_12 (zb_0 I11) (zs_0 I11) (congrArg ov_r (rg_0_0 I11)) ?_
  refine ov_blk (ls2 := [(0, ov_r 0), (1, ov_l a), (3, ov_l b), (5, ov_l c)]) (st2 := [ov_l c, ov_r 1]) (pc2 := 22) b_21_20_1 rfl rfl ?_
  refine ov_cV (as := [ov_l c]) (st := []) (d2 := d - 1) d_21_22 lk_OF_101 rfl (Nat.le_of_ble_eq_true rfl) (c := 8) (zb_1 I11) (zs_1 I11) ⟨by decide, rfl⟩ (by omega) (c_fTape_append_1 (d - 1) (by omega) U I11 (ov_kws hw (by decide +kernel)) c) ?_
  rintro _ z17 h18 ⟨rfl, I19, y20, f21, y22⟩
  have fr23 : ∀ a : Int, (a < 1 ∨ 2 < a) → h18 a = h a := fun a ca => Eq.trans (y20 a (by omega)) (fr15 a ca)
  have f24 : (h18 1 1) = ov_fdn c (h10 1 1) 8 := f21
  clear f21
  have y22_ : (h18 2) = ov_fdr c (h10 1 1) (h10 2) 8 := y22
  show ov_R u d ov_m21 25 [(0, ov_r 0), (1, ov_l a), (3, ov_l b), (5, ov_l c)] [] z17 h18 (P_fOF_feed_0 F z h a b c)
  refine ov_blk (ls2 := [(0, ov_r 0), (1, ov_l a), (3, ov_l b), (5, ov_l c)]) (st2 := [ov_r 0]) (pc2 := 26) b_21_25_1 rfl rfl ?_
  refine ov_getf (v := ov_r 1) d_21_26 fl_OF_12 (zb_0 I19) (zs_0 I19) (congrArg ov_r (rg_0_0 I19)) ?_
  refine ov_getf (v := ov_i (h18 1 1)) d_21_29 fl_OF_105 (zb_1 I19) (zs_1 I19) rfl ?_
  have g25 := rg_1_1 I19
  have ff : (h18 1 1) = ov_fdn c (ov_fdn b (ov_fdn a (h 1 1) 8) 8) 8 := by rw [f24, f16, f8]
  exact ov_reti (st := []) d_21_32 rfl ⟨_, rfl, I19, (fun a ca => (fr23 a ca)), (by show (h18 1 1) = (h18 1 1) ∧ (h18 1 1) = ov_fdn c (ov_fdn b (ov_fdn a (h 1 1) 8) 8) 8; omega), (by rw [y22_, f16, y14_, f8, y6_])⟩
abbrev P_fMo_feed_90 (F : ov_H × ov_Z) (z : ov_Z) (h : ov_H) (a : Int) (b : Int) (c : Int) : Option ov_V → ov_Z → ov_H → Prop := fun r0 z' h' => ∃ r : Int, r0 = some (ov_i r) ∧ ov_N F z' h' ∧ (∀ a : Int, (a < 90 ∨ 91 < a) → h' a = h a) ∧ (r = (h' 90 2) ∧ (h' 90 2) = ov_fdn c (ov_fdn b (ov_fdn a (h 90 2) 8) 8) 8) ∧ ((h' 91) = ov_fdr c (ov_fdn b (ov_fdn a (h 90 2) 8) 8) (ov_fdr b (ov_fdn a (h 90 2) 8) (ov_fdr a (h 90 2) (h 91) 8) 8) 8) ∧ (∀ k : Int, k ≠ 0 → k ≠ 2 → (h' 90) k = (h 90) k)
set_option maxHeartbeats 4000000 in
theorem c_fMo_feed_90 {u : ov_U} {F : ov_H × ov_Z} {z : ov_Z} {h : ov_H} (d : Nat) (hd : 1 ≤ d) (U : ov_cap u) (I : ov_N F z h) (a : Int) (b : Int) (c : Int) : ov_T u d ov_m200 [ov_r 90, ov_l a, ov_l b, ov_l c] z h (P_fMo_feed_90 F z h a b c) := by
  refine ov_en rfl (Nat.le_of_ble_eq_true rfl) ?_
  show ov_R u d ov_m200 0 [(0, ov_r 90), (1, ov_l a), (3, ov_l b), (5, ov_l c)] [] z h (P_fMo_feed_90 F z h a b c)
  refine ov_blk (ls2 := [(0, ov_r 90), (1, ov_l a), (3, ov_l b), (5, ov_l c)]) (st2 := [ov_i 0, ov_r 90]) (pc2 := 2) b_200_0_2 rfl rfl ?_
  refine ov_putf (x := 0) d_200_2 fl_Mo_1 (zb_90 I) (zs_90 I) rfl nk_0 rfl ?_
  have I1 := up_90_0 (x := 0) I (by omega)
  show ov_R u d ov_m200 5 [(0, ov_r 90), (1, ov_l a), (3, ov_l b), (5, ov_l c)] [] z (ov_up h 90 0 0) (P_fMo_feed_90 F z h a b c)
  refine ov_blk (ls2 := [(0, ov_r 90), (1, ov_l a), (3, ov_l b), (5, ov_l c)]) (st2 := [ov_l a, ov_r 90]) (pc2 := 7) b_200_5_2 rfl rfl ?_
  refine ov_cV (as := [ov_l a]) (st := []) (d2 := d - 1) d_200_7 lk_Mo_7 rfl (Nat.le_of_ble_eq_true rfl) (c := 1) (zb_90 I1) (zs_90 I1) ⟨by decide, rfl⟩ (by omega) (c_fMo_lay_90 (d - 1) (by omega) U I1 a) ?_
  rintro _ z2 h3 ⟨rfl, I4, y5, f6, y7, y8⟩
  have fr9 : ∀ a : Int, (a < 90 ∨ 91 < a) → h3 a = h a := fun a ca => Eq.trans (y5 a (by omega)) (Eq.trans (by show (ov_up h 90 0 0) a = h a; rw [ov_up_ne (by omega)]) rfl)
  have f11 : (h3 90 2) = ov_fdn a (h 90 2) 8 := f6
  clear f6
  have y7_ : (h3 91) = ov_fdr a (h 90 2) (h 91) 8 := y7
  have y8_ : ∀ k : Int, k ≠ 2 → (h3 90) k = ((ov_up h 90 0 0) 90) k := y8
  have rk10 : ∀ k : Int, k ≠ 0 → k ≠ 2 → h3 90 k = h 90 k := fun k n0 n1 => Eq.trans (y8_ k n1) (Eq.trans (by show (ov_up h 90 0 0) 90 k = h 90 k; rw [ov_up_j n0]) rfl)
  show ov_R u d ov_m200 10 [(0, ov_r 90), (1, ov_l a), (3, ov_l b), (5, ov_l c)] [] z2 h3 (P_fMo_feed_90 F z h a b c)
  refine ov_blk (ls2 := [(0, ov_r 90), (1, ov_l a), (3, ov_l b), (5, ov_l c)]) (st2 := [ov_l b, ov_r 90]) (pc2 := 12) b_200_10_2 rfl rfl ?_
  refine ov_cV (as := [ov_l b]) (st := []) (d2 := d - 1) d_200_12 lk_Mo_7 rfl (Nat.le_of_ble_eq_true rfl) (c := 1) (zb_90 I4) (zs_90 I4) ⟨by decide, rfl⟩ (by omega) (c_fMo_lay_90 (d - 1) (by omega) U I4 b) ?_
  rintro _ z12 h13 ⟨rfl, I14, y15, f16, y17, y18⟩
  have fr19 : ∀ a : Int, (a < 90 ∨ 91 < a) → h13 a = h a := fun a ca => Eq.trans (y15 a (by omega)) (fr9 a ca)
  have f21 : (h13 90 2) = ov_fdn b (h3 90 2) 8 := f16
  clear f16
  have y17_ : (h13 91) = ov_fdr b (h3 90 2) (h3 91) 8 := y17
  have y18_ : ∀ k : Int, k ≠ 2 → (h13 90) k = (h3 90) k := y18
  have rk20 : ∀ k : Int, k ≠ 0 → k ≠ 2 → h13 90 k = h 90 k := fun k n0 n1 => Eq.trans (y18_ k n1) (rk10 k n0 n1)
  show ov_R u d ov_m200 15 [(0, ov_r 90), (1, ov_l a), (3, ov_l b), (5, ov_l c)] [] z12 h13 (P_fMo_feed_90 F z h a b c)
  refine ov_blk (ls2 := [(0, ov_r 90), (1, ov_l a), (3, ov_l b), (5, ov_l c)]) (st2 := [ov_l c, ov_r 90]) (pc2 := 18) b_200_15_2 rfl rfl ?_
  refine ov_cV (as := [ov_l c]) (st := []) (d2 := d - 1) d_200_18 lk_Mo_7 rfl (Nat.le_of_ble_eq_true rfl) (c := 1) (zb_90 I14) (zs_90 I14) ⟨by decide, rfl⟩ (by omega) (c_fMo_lay_90 (d - 1) (by omega) U I14 c) ?_
  rintro _ z22 h23 ⟨rfl, I24, y25, f26, y27, y28⟩
  have fr29 : ∀ a : Int, (a < 90 ∨ 91 < a) → h23 a = h a := fun a ca => Eq.trans (y25 a (by omega)) (fr19 a ca)
  have f31 : (h23 90 2) = ov_fdn c (h13 90 2) 8 := f26
  clear f26
  have y27_ : (h23 91) = ov_fdr c (h13 90 2) (h13 91) 8 := y27
  have y28_ : ∀ k : Int, k ≠ 2 → (h23 90) k = (h13 90) k := y28
  have rk30 : ∀ k : Int, k ≠ 0 → k ≠ 2 → h23 90 k = h 90 k := fun k n0 n1 => Eq.trans (y28_ k n1) (rk20 k n0 n1)
  show ov_R u d ov_m200 21 [(0, ov_r 90), (1, ov_l a), (3, ov_l b), (5, ov_l c)] [] z22 h23 (P_fMo_feed_90 F z h a b c)
  refine ov_blk (ls2 := [(0, ov_r 90), (1, ov_l a), (3, ov_l b), (5, ov_l c)]) (st2 := [ov_r 90]) (pc2 := 22) b_200_21_1 rfl rfl ?_
  refine ov_getf (v := ov_i (h23 90 2)) d_200_22 fl_Mo_11 (zb_90 I24) (zs_90 I24) rfl ?_
  have g32 := rg_90_2 I24
  have ff : (h23 90 2) = ov_fdn c (ov_fdn b (ov_fdn a (h 90 2) 8) 8) 8 := by rw [f31, f21, f11]
  exact ov_reti (st := []) d_200_25 rfl ⟨_, rfl, I24, (fun a ca => (fr29 a ca)), (by show (h23 90 2) = (h23 90 2) ∧ (h23 90 2) = ov_fdn c (ov_fdn b (ov_fdn a (h 90 2) 8) 8) 8; omega), (by rw [y27_, f21, y17_, f11, y7_]), (fun k n0 n1 => (rk30 k n0 n1))⟩

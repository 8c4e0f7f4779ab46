theorem b_201_0_2 : ov_ds ov_m201.2.1 0 [.bipush 56, .istore_n 3] = true := by decide +kernel
theorem b_201_3_1 : ov_ds ov_m201.2.1 3 [.iload_n 3] = true := by decide +kernel
theorem d_201_4 : decode ov_m201.2.1 4 = .ok (.ifCond .lt 71, 3) := by decide +kernel
theorem d_201_75 : decode ov_m201.2.1 75 = .ok (.return_, 1) := by decide +kernel
theorem b_201_7_4 : ov_ds ov_m201.2.1 7 [.lload_n 1, .iload_n 3, .lshr, .l2i] = true := by decide +kernel
theorem b_201_11_3 : ov_ds ov_m201.2.1 11 [.sipush 255, .iand, .istore 4] = true := by decide +kernel
theorem b_201_17_2 : ov_ds ov_m201.2.1 17 [.iload 4, .bipush 10] = true := by decide +kernel
theorem d_201_21 : decode ov_m201.2.1 21 = .ok (.if_icmp .eq 17, 3) := by decide +kernel
theorem b_201_38_1 : ov_ds ov_m201.2.1 38 [.aload_n 0] = true := by decide +kernel
theorem d_201_39 : decode ov_m201.2.1 39 = .ok (.getfield 11, 3) := by decide +kernel
theorem b_201_42_1 : ov_ds ov_m201.2.1 42 [.sipush 1000] = true := by decide +kernel
theorem d_201_45 : decode ov_m201.2.1 45 = .ok (.if_icmp .ge 24, 3) := by decide +kernel
theorem b_201_69_1 : ov_ds ov_m201.2.1 69 [.iinc 3 (-8)] = true := by decide +kernel
theorem d_201_72 : decode ov_m201.2.1 72 = .ok (.goto (-69), 3) := by decide +kernel
theorem b_201_48_1 : ov_ds ov_m201.2.1 48 [.aload_n 0] = true := by decide +kernel
theorem d_201_49 : decode ov_m201.2.1 49 = .ok (.getfield 14, 3) := by decide +kernel
theorem b_201_52_1 : ov_ds ov_m201.2.1 52 [.aload_n 0] = true := by decide +kernel
theorem d_201_53 : decode ov_m201.2.1 53 = .ok (.getfield 11, 3) := by decide +kernel
theorem b_201_56_1 : ov_ds ov_m201.2.1 56 [.iload 4] = true := by decide +kernel
theorem d_201_58 : decode ov_m201.2.1 58 = .ok (.iastore, 1) := by decide +kernel
theorem b_201_59_2 : ov_ds ov_m201.2.1 59 [.aload_n 0, .dup] = true := by decide +kernel
theorem d_201_61 : decode ov_m201.2.1 61 = .ok (.getfield 11, 3) := by decide +kernel
theorem b_201_64_2 : ov_ds ov_m201.2.1 64 [.iconst 1, .iadd] = true := by decide +kernel
theorem d_201_66 : decode ov_m201.2.1 66 = .ok (.putfield 11, 3) := by decide +kernel
theorem b_201_24_2 : ov_ds ov_m201.2.1 24 [.iload 4, .bipush 32] = true := by decide +kernel
theorem d_201_28 : decode ov_m201.2.1 28 = .ok (.if_icmp .lt 41, 3) := by decide +kernel
theorem b_201_31_2 : ov_ds ov_m201.2.1 31 [.iload 4, .bipush 126] = true := by decide +kernel
theorem d_201_35 : decode ov_m201.2.1 35 = .ok (.if_icmp .gt 34, 3) := by decide +kernel
theorem b_200_0_2 : ov_ds ov_m200.2.1 0 [.aload_n 0, .iconst 0] = true := by decide +kernel
theorem d_200_2 : decode ov_m200.2.1 2 = .ok (.putfield 1, 3) := by decide +kernel
theorem b_200_5_2 : ov_ds ov_m200.2.1 5 [.aload_n 0, .lload_n 1] = true := by decide +kernel
theorem d_200_7 : decode ov_m200.2.1 7 = .ok (.invokevirtual 7, 3) := by decide +kernel
theorem b_200_10_2 : ov_ds ov_m200.2.1 10 [.aload_n 0, .lload_n 3] = true := by decide +kernel
theorem d_200_12 : decode ov_m200.2.1 12 = .ok (.invokevirtual 7, 3) := by decide +kernel
theorem b_200_15_2 : ov_ds ov_m200.2.1 15 [.aload_n 0, .lload 5] = true := by decide +kernel
theorem d_200_18 : decode ov_m200.2.1 18 = .ok (.invokevirtual 7, 3) := by decide +kernel
theorem b_200_21_1 : ov_ds ov_m200.2.1 21 [.aload_n 0] = true := by decide +kernel
theorem d_200_22 : decode ov_m200.2.1 22 = .ok (.getfield 11, 3) := by decide +kernel
theorem d_200_25 : decode ov_m200.2.1 25 = .ok (.ireturn, 1) := by decide +kernel
abbrev P_Mo_lay_90 (z : ov_Z) (h : ov_H) (w : Int) : Option ov_V → ov_Z → ov_H → Prop := fun r0 z' h' => r0 = none ∧ ov_I z' h' ∧ ((h' 90 2) = ov_fdn w (h 90 2) 8 ∧ (h' 36 7) = (h 36 7) ∧ (h' 1 1) = (h 1 1) ∧ (h' 0 10) = (h 0 10) ∧ (h' 0 11) = (h 0 11) ∧ (h' 0 12) = (h 0 12) ∧ (h' 0 13) = (h 0 13) ∧ (h' 3 1) = (h 3 1) ∧ (h' 36 8) = (h 36 8) ∧ (h' 46 3) = (h 46 3) ∧ (h' 46 4) = (h 46 4) ∧ (h' 49 4) = (h 49 4) ∧ (h' 49 5) = (h 49 5))
set_option maxHeartbeats 4000000 in
theorem c_Mo_lay_90 {u : ov_U} {z : ov_Z} {h : ov_H} (d : Nat) (hd : 0 ≤ d) (U : ov_cap u) (I : ov_I z h) (w : Int) : ov_T u d ov_m201 [ov_r 90, ov_l w] z h (P_Mo_lay_90 z h w) := by
  refine ov_en rfl (Nat.le_of_ble_eq_true rfl) ?_
  show ov_R u d ov_m201 0 [(0, ov_r 90), (1, ov_l w)] [] z h (P_Mo_lay_90 z h w)
  refine ov_blk (ls2 := [(0, ov_r 90), (1, ov_l w), (3, ov_i 56)]) (st2 := []) (pc2 := 3) b_201_0_2 rfl rfl ?_
  have fz : ov_fdn w (h 90 2) (Int.toNat ((56 - 56) / 8)) = h 90 2 := rfl
  have L4 : ∀ (n1 : Nat) (x3 : Int) (z5 : ov_Z) (h6 : ov_H) (I7 : ov_I z5 h6) (q3 : -8 ≤ x3 ∧ x3 ≤ 56 ∧ x3 % 8 = 0 ∧ (h6 90 2) = ov_fdn w (h 90 2) (Int.toNat ((56 - x3) / 8)) ∧ (h6 36 7) = (h 36 7) ∧ (h6 1 1) = (h 1 1) ∧ (h6 0 10) = (h 0 10) ∧ (h6 0 11) = (h 0 11) ∧ (h6 0 12) = (h 0 12) ∧ (h6 0 13) = (h 0 13) ∧ (h6 3 1) = (h 3 1) ∧ (h6 36 8) = (h 36 8) ∧ (h6 46 3) = (h 46 3) ∧ (h6 46 4) = (h 46 4) ∧ (h6 49 4) = (h 49 4) ∧ (h6 49 5) = (h 49 5)), x3 + 8 < (n1 : Int) → ov_R u d ov_m201 3 [(0, ov_r 90), (1, ov_l w), (3, ov_i x3)] [] z5 h6 (P_Mo_lay_90 z h w) := by
    intro n1
    induction n1 with
    | zero =>
      intro x3 z5 h6 I7 q3 hn8
      exact absurd hn8 (by omega)
    | succ n1 ih2 =>
      intro x3 z5 h6 I7 q3 hn8
      refine ov_blk (ls2 := [(0, ov_r 90), (1, ov_l w), (3, ov_i x3)]) (st2 := [ov_i x3]) (pc2 := 4) b_201_3_1 rfl rfl ?_
      refine ov_iflt (tgt := 75) d_201_4 (by decide) (by omega) (fun c9 => ?_) (fun c9 => ?_)
      · skip
        have fe : ov_fdn w (h 90 2) (Int.toNat ((56 - x3) / 8)) = ov_fdn w (h 90 2) 8 := by rw [show Int.toNat ((56 - x3) / 8) = 8 by omega]
        exact ov_retv (st := []) d_201_75 rfl ⟨rfl, I7, (by show (h6 90 2) = ov_fdn w (h 90 2) 8 ∧ (h6 36 7) = (h 36 7) ∧ (h6 1 1) = (h 1 1) ∧ (h6 0 10) = (h 0 10) ∧ (h6 0 11) = (h 0 11) ∧ (h6 0 12) = (h 0 12) ∧ (h6 0 13) = (h 0 13) ∧ (h6 3 1) = (h 3 1) ∧ (h6 36 8) = (h 36 8) ∧ (h6 46 3) = (h 46 3) ∧ (h6 46 4) = (h 46 4) ∧ (h6 49 4) = (h 49 4) ∧ (h6 49 5) = (h 49 5); omega)⟩
      · skip
        refine ov_blk (ls2 := [(0, ov_r 90), (1, ov_l w), (3, ov_i x3)]) (st2 := [ov_i (ov_lshr w x3)]) (pc2 := 11) b_201_7_4 rfl rfl ?_
        refine ov_blk (ls2 := [(0, ov_r 90), (1, ov_l w), (3, ov_i x3), (4, ov_i (ov_and (ov_lshr w x3) 255))]) (st2 := []) (pc2 := 17) b_201_11_3 rfl rfl ?_
        have g10 := ov_andg (ov_lshr w x3) 255
        have g11 := ov_and255 (ov_lshr w x3)
        have fs : (ov_fdn w (h 90 2) (Int.toNat ((56 - x3) / 8)) < 1000 → ((ov_bt w x3) = 10 ∨ (32 ≤ (ov_bt w x3) ∧ (ov_bt w x3) ≤ 126)) → ov_fdn w (h 90 2) (Int.toNat ((56 - (x3 + (-8))) / 8)) = ov_fdn w (h 90 2) (Int.toNat ((56 - x3) / 8)) + 1) ∧ (1000 ≤ ov_fdn w (h 90 2) (Int.toNat ((56 - x3) / 8)) ∨ ¬ ((ov_bt w x3) = 10 ∨ (32 ≤ (ov_bt w x3) ∧ (ov_bt w x3) ≤ 126)) → ov_fdn w (h 90 2) (Int.toNat ((56 - (x3 + (-8))) / 8)) = ov_fdn w (h 90 2) (Int.toNat ((56 - x3) / 8))) := ov_fd_step (by omega) (by omega)
        have fl := ov_lsbI (w := w) (s := x3) (by omega)
        have fr := ov_bt_rng w x3
        refine ov_blk (ls2 := [(0, ov_r 90), (1, ov_l w), (3, ov_i x3), (4, ov_i (ov_and (ov_lshr w x3) 255))]) (st2 := [ov_i 10, ov_i (ov_and (ov_lshr w x3) 255)]) (pc2 := 21) b_201_17_2 rfl rfl ?_
        refine ov_iceq (tgt := 38) d_201_21 (by decide) (by omega) (by omega) (fun c12 => ?_) (fun c12 => ?_)
        · skip
          refine ov_blk (ls2 := [(0, ov_r 90), (1, ov_l w), (3, ov_i x3), (4, ov_i (ov_and (ov_lshr w x3) 255))]) (st2 := [ov_r 90]) (pc2 := 39) b_201_38_1 rfl rfl ?_
          refine ov_getf (v := ov_i (h6 90 2)) d_201_39 fl_Mo_11 (zb_90 I7) (zs_90 I7) rfl ?_
          have g13 := rg_90_2 I7
          refine ov_blk (ls2 := [(0, ov_r 90), (1, ov_l w), (3, ov_i x3), (4, ov_i (ov_and (ov_lshr w x3) 255))]) (st2 := [ov_i 1000, ov_i (h6 90 2)]) (pc2 := 45) b_201_42_1 rfl rfl ?_
          refine ov_icge (tgt := 69) d_201_45 (by decide) (by omega) (by omega) (fun c14 => ?_) (fun c14 => ?_)
          · skip
            refine ov_blk (ls2 := [(0, ov_r 90), (1, ov_l w), (3, ov_i (x3 + (-8))), (4, ov_i (ov_and (ov_lshr w x3) 255))]) (st2 := []) (pc2 := 72) b_201_69_1 rfl rfl ?_
            refine ov_goto (tgt := 3) d_201_72 (by decide) ?_
            refine ov_sub (ls2 := [(0, ov_r 90), (1, ov_l w), (3, ov_i (x3 + (-8)))]) (List.Sublist.subset (by repeat (first | exact List.Sublist.refl _ | apply List.Sublist.cons_cons | apply List.Sublist.cons))) ?_
            exact ih2 (x3 + (-8)) _ _ I7 (by show -8 ≤ (x3 + (-8)) ∧ (x3 + (-8)) ≤ 56 ∧ (x3 + (-8)) % 8 = 0 ∧ (h6 90 2) = ov_fdn w (h 90 2) (Int.toNat ((56 - (x3 + (-8))) / 8)) ∧ (h6 36 7) = (h 36 7) ∧ (h6 1 1) = (h 1 1) ∧ (h6 0 10) = (h 0 10) ∧ (h6 0 11) = (h 0 11) ∧ (h6 0 12) = (h 0 12) ∧ (h6 0 13) = (h 0 13) ∧ (h6 3 1) = (h 3 1) ∧ (h6 36 8) = (h 36 8) ∧ (h6 46 3) = (h 46 3) ∧ (h6 46 4) = (h 46 4) ∧ (h6 49 4) = (h 49 4) ∧ (h6 49 5) = (h 49 5); omega) (by omega)
          · skip
            refine ov_blk (ls2 := [(0, ov_r 90), (1, ov_l w), (3, ov_i x3), (4, ov_i (ov_and (ov_lshr w x3) 255))]) (st2 := [ov_r 90]) (pc2 := 49) b_201_48_1 rfl rfl ?_
            refine ov_getf (v := ov_r 91) d_201_49 fl_Mo_14 (zb_90 I7) (zs_90 I7) (congrArg ov_r (rg_90_1 I7)) ?_
            refine ov_blk (ls2 := [(0, ov_r 90), (1, ov_l w), (3, ov_i x3), (4, ov_i (ov_and (ov_lshr w x3) 255))]) (st2 := [ov_r 90, ov_r 91]) (pc2 := 53) b_201_52_1 rfl rfl ?_
            refine ov_getf (v := ov_i (h6 90 2)) d_201_53 fl_Mo_11 (zb_90 I7) (zs_90 I7) rfl ?_
            refine ov_blk (ls2 := [(0, ov_r 90), (1, ov_l w), (3, ov_i x3), (4, ov_i (ov_and (ov_lshr w x3) 255))]) (st2 := [ov_i (ov_and (ov_lshr w x3) 255), ov_i (h6 90 2), ov_r 91]) (pc2 := 58) b_201_56_1 rfl rfl ?_
            refine ov_iast d_201_58 (zb_91 I7) (zs_91 I7) (by omega) ?_
            have I16 := ua_91 (k := (h6 90 2)) (x := (ov_and (ov_lshr w x3) 255)) I7 (by omega)
            refine ov_blk (ls2 := [(0, ov_r 90), (1, ov_l w), (3, ov_i x3), (4, ov_i (ov_and (ov_lshr w x3) 255))]) (st2 := [ov_r 90, ov_r 90]) (pc2 := 61) b_201_59_2 rfl rfl ?_
            refine ov_getf (v := ov_i (h6 90 2)) d_201_61 fl_Mo_11 (zb_90 I16) (zs_90 I16) rfl ?_
            refine ov_blk (ls2 := [(0, ov_r 90), (1, ov_l w), (3, ov_i x3), (4, ov_i (ov_and (ov_lshr w x3) 255))]) (st2 := [ov_i ((h6 90 2) + 1), ov_r 90]) (pc2 := 66) b_201_64_2 rfl rfl ?_
            refine ov_putf (x := ((h6 90 2) + 1)) d_201_66 fl_Mo_11 (zb_90 I16) (zs_90 I16) rfl nk_0 rfl ?_
            have I18 := up_90_2 (x := ((h6 90 2) + 1)) I16 (by omega)
            refine ov_blk (ls2 := [(0, ov_r 90), (1, ov_l w), (3, ov_i (x3 + (-8))), (4, ov_i (ov_and (ov_lshr w x3) 255))]) (st2 := []) (pc2 := 72) b_201_69_1 rfl rfl ?_
            refine ov_goto (tgt := 3) d_201_72 (by decide) ?_
            refine ov_sub (ls2 := [(0, ov_r 90), (1, ov_l w), (3, ov_i (x3 + (-8)))]) (List.Sublist.subset (by repeat (first | exact List.Sublist.refl _ | apply List.Sublist.cons_cons | apply List.Sublist.cons))) ?_
            exact ih2 (x3 + (-8)) _ _ I18 (by show -8 ≤ (x3 + (-8)) ∧ (x3 + (-8)) ≤ 56 ∧ (x3 + (-8)) % 8 = 0 ∧ ((h6 90 2) + 1) = ov_fdn w (h 90 2) (Int.toNat ((56 - (x3 + (-8))) / 8)) ∧ (h6 36 7) = (h 36 7) ∧ (h6 1 1) = (h 1 1) ∧ (h6 0 10) = (h 0 10) ∧ (h6 0 11) = (h 0 11) ∧ (h6 0 12) = (h 0 12) ∧ (h6 0 13) = (h 0 13) ∧ (h6 3 1) = (h 3 1) ∧ (h6 36 8) = (h 36 8) ∧ (h6 46 3) = (h 46 3) ∧ (h6 46 4) = (h 46 4) ∧ (h6 49 4) = (h 49 4) ∧ (h6 49 5) = (h 49 5); omega) (by omega)
        · skip
          refine ov_blk (ls2 := [(0, ov_r 90), (1, ov_l w), (3, ov_i x3), (4, ov_i (ov_and (ov_lshr w x3) 255))]) (st2 := [ov_i 32, ov_i (ov_and (ov_lshr w x3) 255)]) (pc2 := 28) b_201_24_2 rfl rfl ?_
          refine ov_iclt (tgt := 69) d_201_28 (by decide) (by omega) (by omega) (fun c19 => ?_) (fun c19 => ?_)
          · skip
            refine ov_blk (ls2 := [(0, ov_r 90), (1, ov_l w), (3, ov_i (x3 + (-8))), (4, ov_i (ov_and (ov_lshr w x3) 255))]) (st2 := []) (pc2 := 72) b_201_69_1 rfl rfl ?_
            refine ov_goto (tgt := 3) d_201_72 (by decide) ?_
            refine ov_sub (ls2 := [(0, ov_r 90), (1, ov_l w), (3, ov_i (x3 + (-8)))]) (List.Sublist.subset (by repeat (first | exact List.Sublist.refl _ | apply List.Sublist.cons_cons | apply List.Sublist.cons))) ?_
            exact ih2 (x3 + (-8)) _ _ I7 (by show -8 ≤ (x3 + (-8)) ∧ (x3 + (-8)) ≤ 56 ∧ (x3 + (-8)) % 8 = 0 ∧ (h6 90 2) = ov_fdn w (h 90 2) (Int.toNat ((56 - (x3 + (-8))) / 8)) ∧ (h6 36 7) = (h 36 7) ∧ (h6 1 1) = (h 1 1) ∧ (h6 0 10) = (h 0 10) ∧ (h6 0 11) = (h 0 11) ∧ (h6 0 12) = (h 0 12) ∧ (h6 0 13) = (h 0 13) ∧ (h6 3 1) = (h 3 1) ∧ (h6 36 8) = (h 36 8) ∧ (h6 46 3) = (h 46 3) ∧ (h6 46 4) = (h 46 4) ∧ (h6 49 4) = (h 49 4) ∧ (h6 49 5) = (h 49 5); omega) (by omega)
          · skip
            refine ov_blk (ls2 := [(0, ov_r 90), (1, ov_l w), (3, ov_i x3), (4, ov_i (ov_and (ov_lshr w x3) 255))]) (st2 := [ov_i 126, ov_i (ov_and (ov_lshr w x3) 255)]) (pc2 := 35) b_201_31_2 rfl rfl ?_
            refine ov_icgt (tgt := 69) d_201_35 (by decide) (by omega) (by omega) (fun c20 => ?_) (fun c20 => ?_)
            · skip
              refine ov_blk (ls2 := [(0, ov_r 90), (1, ov_l w), (3, ov_i (x3 + (-8))), (4, ov_i (ov_and (ov_lshr w x3) 255))]) (st2 := []) (pc2 := 72) b_201_69_1 rfl rfl ?_
              refine ov_goto (tgt := 3) d_201_72 (by decide) ?_
              refine ov_sub (ls2 := [(0, ov_r 90), (1, ov_l w), (3, ov_i (x3 + (-8)))]) (List.Sublist.subset (by repeat (first | exact List.Sublist.refl _ | apply List.Sublist.cons_cons | apply List.Sublist.cons))) ?_
              exact ih2 (x3 + (-8)) _ _ I7 (by show -8 ≤ (x3 + (-8)) ∧ (x3 + (-8)) ≤ 56 ∧ (x3 + (-8)) % 8 = 0 ∧ (h6 90 2) = ov_fdn w (h 90 2) (Int.toNat ((56 - (x3 + (-8))) / 8)) ∧ (h6 36 7) = (h 36 7) ∧ (h6 1 1) = (h 1 1) ∧ (h6 0 10) = (h 0 10) ∧ (h6 0 11) = (h 0 11) ∧ (h6 0 12) = (h 0 12) ∧ (h6 0 13) = (h 0 13) ∧ (h6 3 1) = (h 3 1) ∧ (h6 36 8) = (h 36 8) ∧ (h6 46 3) = (h 46 3) ∧ (h6 46 4) = (h 46 4) ∧ (h6 49 4) = (h 49 4) ∧ (h6 49 5) = (h 49 5); omega) (by omega)
            · skip
              refine ov_blk (ls2 := [(0, ov_r 90), (1, ov_l w), (3, ov_i x3), (4, ov_i (ov_and (ov_lshr w x3) 255))]) (st2 := [ov_r 90]) (pc2 := 39) b_201_38_1 rfl rfl ?_
              refine ov_getf (v := ov_i (h6 90 2)) d_201_39 fl_Mo_11 (zb_90 I7) (zs_90 I7) rfl ?_
              have g21 := rg_90_2 I7
              refine ov_blk (ls2 := [(0, ov_r 90), (1, ov_l w), (3, ov_i x3), (4, ov_i (ov_and (ov_lshr w x3) 255))]) (st2 := [ov_i 1000, ov_i (h6 90 2)]) (pc2 := 45) b_201_42_1 rfl rfl ?_
              refine ov_icge (tgt := 69) d_201_45 (by decide) (by omega) (by omega) (fun c22 => ?_) (fun c22 => ?_)
              · skip
                refine ov_blk (ls2 := [(0, ov_r 90), (1, ov_l w), (3, ov_i (x3 + (-8))), (4, ov_i (ov_and (ov_lshr w x3) 255))]) (st2 := []) (pc2 := 72) b_201_69_1 rfl rfl ?_
                refine ov_goto (tgt := 3) d_201_72 (by decide) ?_
                refine ov_sub (ls2 := [(0, ov_r 90), (1, ov_l w), (3, ov_i (x3 + (-8)))]) (List.Sublist.subset (by repeat (first | exact List.Sublist.refl _ | apply List.Sublist.cons_cons | apply List.Sublist.cons))) ?_
                exact ih2 (x3 + (-8)) _ _ I7 (by show -8 ≤ (x3 + (-8)) ∧ (x3 + (-8)) ≤ 56 ∧ (x3 + (-8)) % 8 = 0 ∧ (h6 90 2) = ov_fdn w (h 90 2) (Int.toNat ((56 - (x3 + (-8))) / 8)) ∧ (h6 36 7) = (h 36 7) ∧ (h6 1 1) = (h 1 1) ∧ (h6 0 10) = (h 0 10) ∧ (h6 0 11) = (h 0 11) ∧ (h6 0 12) = (h 0 12) ∧ (h6 0 13) = (h 0 13) ∧ (h6 3 1) = (h 3 1) ∧ (h6 36 8) = (h 36 8) ∧ (h6 46 3) = (h 46 3) ∧ (h6 46 4) = (h 46 4) ∧ (h6 49 4) = (h 49 4) ∧ (h6 49 5) = (h 49 5); omega) (by omega)
              · skip
                refine ov_blk (ls2 := [(0, ov_r 90), (1, ov_l w), (3, ov_i x3), (4, ov_i (ov_and (ov_lshr w x3) 255))]) (st2 := [ov_r 90]) (pc2 := 49) b_201_48_1 rfl rfl ?_
                refine ov_getf (v := ov_r 91) d_201_49 fl_Mo_14 (zb_90 I7) (zs_90 I7) (congrArg ov_r (rg_90_1 I7)) ?_
                refine ov_blk (ls2 := [(0, ov_r 90), (1, ov_l w), (3, ov_i x3), (4, ov_i (ov_and (ov_lshr w x3) 255))]) (st2 := [ov_r 90, ov_r 91]) (pc2 := 53) b_201_52_1 rfl rfl ?_
                refine ov_getf (v := ov_i (h6 90 2)) d_201_53 fl_Mo_11 (zb_90 I7) (zs_90 I7) rfl ?_
                refine ov_blk (ls2 := [(0, ov_r 90), (1, ov_l w), (3, ov_i x3), (4, ov_i (ov_and (ov_lshr w x3) 255))]) (st2 := [ov_i (ov_and (ov_lshr w x3) 255), ov_i (h6 90 2), ov_r 91]) (pc2 := 58) b_201_56_1 rfl rfl ?_
                refine ov_iast d_201_58 (zb_91 I7) (zs_91 I7) (by omega) ?_
                have I24 := ua_91 (k := (h6 90 2)) (x := (ov_and (ov_lshr w x3) 255)) I7 (by omega)
                refine ov_blk (ls2 := [(0, ov_r 90), (1, ov_l w), (3, ov_i x3), (4, ov_i (ov_and (ov_lshr w x3) 255))]) (st2 := [ov_r 90, ov_r 90]) (pc2 := 61) b_201_59_2 rfl rfl ?_
                refine ov_getf (v := ov_i (h6 90 2)) d_201_61 fl_Mo_11 (zb_90 I24) (zs_90 I24) rfl ?_
                refine ov_blk (ls2 := [(0, ov_r 90), (1, ov_l w), (3, ov_i x3), (4, ov_i (ov_and (ov_lshr w x3) 255))]) (st2 := [ov_i ((h6 90 2) + 1), ov_r 90]) (pc2 := 66) b_201_64_2 rfl rfl ?_
                refine ov_putf (x := ((h6 90 2) + 1)) d_201_66 fl_Mo_11 (zb_90 I24) (zs_90 I24) rfl nk_0 rfl ?_
                have I26 := up_90_2 (x := ((h6 90 2) + 1)) I24 (by omega)
                refine ov_blk (ls2 := [(0, ov_r 90), (1, ov_l w), (3, ov_i (x3 + (-8))), (4, ov_i (ov_and (ov_lshr w x3) 255))]) (st2 := []) (pc2 := 72) b_201_69_1 rfl rfl ?_
                refine ov_goto (tgt := 3) d_201_72 (by decide) ?_
                refine ov_sub (ls2 := [(0, ov_r 90), (1, ov_l w), (3, ov_i (x3 + (-8)))]) (List.Sublist.subset (by repeat (first | exact List.Sublist.refl _ | apply List.Sublist.cons_cons | apply List.Sublist.cons))) ?_
                exact ih2 (x3 + (-8)) _ _ I26 (by show -8 ≤ (x3 + (-8)) ∧ (x3 + (-8)) ≤ 56 ∧ (x3 + (-8)) % 8 = 0 ∧ ((h6 90 2) + 1) = ov_fdn w (h 90 2) (Int.toNat ((56 - (x3 + (-8))) / 8)) ∧ (h6 36 7) = (h 36 7) ∧ (h6 1 1) = (h 1 1) ∧ (h6 0 10) = (h 0 10) ∧ (h6 0 11) = (h 0 11) ∧ (h6 0 12) = (h 0 12) ∧ (h6 0 13) = (h 0 13) ∧ (h6 3 1) = (h 3 1) ∧ (h6 36 8) = (h 36 8) ∧ (h6 46 3) = (h 46 3) ∧ (h6 46 4) = (h 46 4) ∧ (h6 49 4) = (h 49 4) ∧ (h6 49 5) = (h 49 5); omega) (by omega)
  exact L4 100 56 _ _ I (by show -8 ≤ 56 ∧ 56 ≤ 56 ∧ 56 % 8 = 0 ∧ (h 90 2) = ov_fdn w (h 90 2) (Int.toNat ((56 - 56) / 8)) ∧ (h 36 7) = (h 36 7) ∧ (h 1 1) = (h 1 1) ∧ (h 0 10) = (h 0 10) ∧ (h 0 11) = (h 0 11) ∧ (h 0 12) = (h 0 12) ∧ (h 0 13) = (h 0 13) ∧ (h 3 1) = (h 3 1) ∧ (h 36 8) = (h 36 8) ∧ (h 46 3) = (h 46 3) ∧ (h 46 4) = (h 46 4) ∧ (h 49 4) = (h 49 4) ∧ (h 49 5) = (h 49 5); omega) (by omega)
abbrev P_Mo_feed_90 (z : ov_Z) (h : ov_H) (a : Int) (b : Int) (c : Int) : Option ov_V → ov_Z → ov_H → Prop := fun r0 z' h' => ∃ r : Int, r0 = some (ov_i r) ∧ ov_I z' h' ∧ (r = (h' 90 2) ∧ (h' 90 2) = ov_fdn c (ov_fdn b (ov_fdn a (h 90 2) 8) 8) 8 ∧ (h' 36 7) = (h 36 7) ∧ (h' 1 1) = (h 1 1) ∧ (h' 0 10) = (h 0 10) ∧ (h' 0 11) = (h 0 11) ∧ (h' 0 12) = (h 0 12) ∧ (h' 0 13) = (h 0 13) ∧ (h' 3 1) = (h 3 1) ∧ (h' 36 8) = (h 36 8) ∧ (h' 46 3) = (h 46 3) ∧ (h' 46 4) = (h 46 4) ∧ (h' 49 4) = (h 49 4) ∧ (h' 49 5) = (h 49 5))
set_option maxHeartbeats 4000000 in
theorem c_Mo_feed_90 {u : ov_U} {z : ov_Z} {h : ov_H} (d : Nat) (hd : 1 ≤ d) (U : ov_cap u) (I : ov_I z h) (a : Int) (b : Int) (c : Int) : ov_T u d ov_m200 [ov_r 90, ov_l a, ov_l b, ov_l c] z h (P_Mo_feed_90 z h a b c) := by
  refine ov_en rfl (Nat.le_of_ble_eq_true rfl) ?_
  show ov_R u d ov_m200 0 [(0, ov_r 90), (1, ov_l a), (3, ov_l b), (5, ov_l c)] [] z h (P_Mo_feed_90 z h a b c)
  refine ov_blk (ls2 := [(0, ov_r 90), (1, ov_l a), (3, ov_l b), (5, ov_l c)]) (st2 := [ov_i 0, ov_r 90]) (pc2 := 2) b_200_0_2 rfl rfl ?_
  refine ov_putf (x := 0) d_200_2 fl_Mo_1 (zb_90 I) (zs_90 I) rfl nk_0 rfl ?_
  have I1 := up_90_0 (x := 0) I (by omega)
  refine ov_blk (ls2 := [(0, ov_r 90), (1, ov_l a), (3, ov_l b), (5, ov_l c)]) (st2 := [ov_l a, ov_r 90]) (pc2 := 7) b_200_5_2 rfl rfl ?_
  refine ov_cV (as := [ov_l a]) (st := []) (d2 := d - 1) d_200_7 lk_Mo_7 rfl (Nat.le_of_ble_eq_true rfl) (c := 1) (zb_90 I1) (zs_90 I1) ⟨by decide, rfl⟩ (by omega) (c_Mo_lay_90 (d - 1) (by omega) U I1 a) ?_
  rintro _ z3 h4 ⟨rfl, I5, f2⟩
  show ov_R u d ov_m200 10 [(0, ov_r 90), (1, ov_l a), (3, ov_l b), (5, ov_l c)] [] z3 h4 (P_Mo_feed_90 z h a b c)
  have f6 : (h4 90 2) = ov_fdn a (h 90 2) 8 ∧ (h4 36 7) = (h 36 7) ∧ (h4 1 1) = (h 1 1) ∧ (h4 0 10) = (h 0 10) ∧ (h4 0 11) = (h 0 11) ∧ (h4 0 12) = (h 0 12) ∧ (h4 0 13) = (h 0 13) ∧ (h4 3 1) = (h 3 1) ∧ (h4 36 8) = (h 36 8) ∧ (h4 46 3) = (h 46 3) ∧ (h4 46 4) = (h 46 4) ∧ (h4 49 4) = (h 49 4) ∧ (h4 49 5) = (h 49 5) := f2
  clear f2
  refine ov_blk (ls2 := [(0, ov_r 90), (1, ov_l a), (3, ov_l b), (5, ov_l c)]) (st2 := [ov_l b, ov_r 90]) (pc2 := 12) b_200_10_2 rfl rfl ?_
  refine ov_cV (as := [ov_l b]) (st := []) (d2 := d - 1) d_200_12 lk_Mo_7 rfl (Nat.le_of_ble_eq_true rfl) (c := 1) (zb_90 I5) (zs_90 I5) ⟨by decide, rfl⟩ (by omega) (c_Mo_lay_90 (d - 1) (by omega) U I5 b) ?_
  rintro _ z8 h9 ⟨rfl, I10, f7⟩
  show ov_R u d ov_m200 15 [(0, ov_r 90), (1, ov_l a), (3, ov_l b), (5, ov_l c)] [] z8 h9 (P_Mo_feed_90 z h a b c)
  have f11 : (h9 90 2) = ov_fdn b (h4 90 2) 8 ∧ (h9 36 7) = (h4 36 7) ∧ (h9 1 1) = (h4 1 1) ∧ (h9 0 10) = (h4 0 10) ∧ (h9 0 11) = (h4 0 11) ∧ (h9 0 12) = (h4 0 12) ∧ (h9 0 13) = (h4 0 13) ∧ (h9 3 1) = (h4 3 1) ∧ (h9 36 8) = (h4 36 8) ∧ (h9 46 3) = (h4 46 3) ∧ (h9 46 4) = (h4 46 4) ∧ (h9 49 4) = (h4 49 4) ∧ (h9 49 5) = (h4 49 5) := f7
  clear f7
  refine ov_blk (ls2 := [(0, ov_r 90), (1, ov_l a), (3, ov_l b), (5, ov_l c)]) (st2 := [ov_l c, ov_r 90]) (pc2 := 18) b_200_15_2 rfl rfl ?_
  refine ov_cV (as := [ov_l c]) (st := []) (d2 := d - 1) d_200_18 lk_Mo_7 rfl (Nat.le_of_ble_eq_true rfl) (c := 1) (zb_90 I10) (zs_90 I10) ⟨by decide, rfl⟩ (by omega) (c_Mo_lay_90 (d - 1) (by omega) U I10 c) ?_
  rintro _ z13 h14 ⟨rfl, I15, f12⟩
  show ov_R u d ov_m200 21 [(0, ov_r 90), (1, ov_l a), (3, ov_l b), (5, ov_l c)] [] z13 h14 (P_Mo_feed_90 z h a b c)
  have f16 : (h14 90 2) = ov_fdn c (h9 90 2) 8 ∧ (h14 36 7) = (h9 36 7) ∧ (h14 1 1) = (h9 1 1) ∧ (h14 0 10) = (h9 0 10) ∧ (h14 0 11) = (h9 0 11) ∧ (h14 0 12) = (h9 0 12) ∧ (h14 0 13) = (h9 0 13) ∧ (h14 3 1) = (h9 3 1) ∧ (h14 36 8) = (h9 36 8) ∧ (h14 46 3) = (h9 46 3) ∧ (h14 46 4) = (h9 46 4) ∧ (h14 49 4) = (h9 49 4) ∧ (h14 49 5) = (h9 49 5) := f12
  clear f12
  refine ov_blk (ls2 := [(0, ov_r 90), (1, ov_l a), (3, ov_l b), (5, ov_l c)]) (st2 := [ov_r 90]) (pc2 := 22) b_200_21_1 rfl rfl ?_
  refine ov_getf (v := ov_i (h14 90 2)) d_200_22 fl_Mo_11 (zb_90 I15) (zs_90 I15) rfl ?_
  have g17 := rg_90_2 I15
  have ff : (h14 90 2) = ov_fdn c (ov_fdn b (ov_fdn a (h 90 2) 8) 8) 8 := by simp only [*]
  exact ov_reti (st := []) d_200_25 rfl ⟨_, rfl, I15, (by show (h14 90 2) = (h14 90 2) ∧ (h14 90 2) = ov_fdn c (ov_fdn b (ov_fdn a (h 90 2) 8) 8) 8 ∧ (h14 36 7) = (h 36 7) ∧ (h14 1 1) = (h 1 1) ∧ (h14 0 10) = (h 0 10) ∧ (h14 0 11) = (h 0 11) ∧ (h14 0 12) = (h 0 12) ∧ (h14 0 13) = (h 0 13) ∧ (h14 3 1) = (h 3 1) ∧ (h14 36 8) = (h 36 8) ∧ (h14 46 3) = (h 46 3) ∧ (h14 46 4) = (h 46 4) ∧ (h14 49 4) = (h 49 4) ∧ (h14 49 5) = (h 49 5); omega)⟩

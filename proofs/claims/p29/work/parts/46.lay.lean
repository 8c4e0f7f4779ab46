theorem b_201_0_2 : ov_ds ov_m201.2.1 0 [.bipush 56, .istore_n 3] = true := by decide +kernel
theorem b_201_3_1 : ov_ds ov_m201.2.1 3 [.iload_n 3] = true := by decide +kernel
theorem d_201_4 : decode ov_m201.2.1 4 = .ok (.ifCond .lt 71, 3) := by decide +kernel
theorem d_201_75 : decode ov_m201.2.1 75 = .ok (.return_, 1) := by decide +kernel
theorem b_201_7_4 : ov_ds ov_m201.2.1 7 [.lload_n 1, .iload_n 3, .lshr, .l2i] = true := by decide +kernel
theorem b_201_11_3 : ov_ds ov_m201.2.1 11 [.sipush 255, .iand, .istore 4] = true := by decide +kernel
theorem b_201_17_2 : ov_ds ov_m201.2.1 17 [.iload 4, .bipush 10] = true := by decide +kernel
theorem d_201_21 : decode ov_m201.2.1 21 = .ok (.if_icmp .eq 17, 3) := by decide +kernel
theorem b_201_38_1 : ov_ds ov_m201.2.1 38 [.aload_n 0] = true := by decide +kernel
theorem d_201_39 : decode ov_m201.2.1 39 = .ok (.getfield 11, 3) := by decide +kernel
theorem b_201_42_1 : ov_ds ov_m201.2.1 42 [.sipush 1000] = true := by decide +kernel
theorem d_201_45 : decode ov_m201.2.1 45 = .ok (.if_icmp .ge 24, 3) := by decide +kernel
theorem b_201_69_1 : ov_ds ov_m201.2.1 69 [.iinc 3 (-8)] = true := by decide +kernel
theorem d_201_72 : decode ov_m201.2.1 72 = .ok (.goto (-69), 3) := by decide +kernel
theorem b_201_48_1 : ov_ds ov_m201.2.1 48 [.aload_n 0] = true := by decide +kernel
theorem d_201_49 : decode ov_m201.2.1 49 = .ok (.getfield 14, 3) := by decide +kernel
theorem b_201_52_1 : ov_ds ov_m201.2.1 52 [.aload_n 0] = true := by decide +kernel
theorem d_201_53 : decode ov_m201.2.1 53 = .ok (.getfield 11, 3) := by decide +kernel
theorem b_201_56_1 : ov_ds ov_m201.2.1 56 [.iload 4] = true := by decide +kernel
theorem d_201_58 : decode ov_m201.2.1 58 = .ok (.iastore, 1) := by decide +kernel
theorem b_201_59_2 : ov_ds ov_m201.2.1 59 [.aload_n 0, .dup] = true := by decide +kernel
theorem d_201_61 : decode ov_m201.2.1 61 = .ok (.getfield 11, 3) := by decide +kernel
theorem b_201_64_2 : ov_ds ov_m201.2.1 64 [.iconst 1, .iadd] = true := by decide +kernel
theorem d_201_66 : decode ov_m201.2.1 66 = .ok (.putfield 11, 3) := by decide +kernel
theorem b_201_24_2 : ov_ds ov_m201.2.1 24 [.iload 4, .bipush 32] = true := by decide +kernel
theorem d_201_28 : decode ov_m201.2.1 28 = .ok (.if_icmp .lt 41, 3) := by decide +kernel
theorem b_201_31_2 : ov_ds ov_m201.2.1 31 [.iload 4, .bipush 126] = true := by decide +kernel
theorem d_201_35 : decode ov_m201.2.1 35 = .ok (.if_icmp .gt 34, 3) := by decide +kernel
theorem b_200_0_2 : ov_ds ov_m200.2.1 0 [.aload_n 0, .iconst 0] = true := by decide +kernel
theorem d_200_2 : decode ov_m200.2.1 2 = .ok (.putfield 1, 3) := by decide +kernel
theorem b_200_5_2 : ov_ds ov_m200.2.1 5 [.aload_n 0, .lload_n 1] = true := by decide +kernel
theorem d_200_7 : decode ov_m200.2.1 7 = .ok (.invokevirtual 7, 3) := by decide +kernel
theorem b_200_10_2 : ov_ds ov_m200.2.1 10 [.aload_n 0, .lload_n 3] = true := by decide +kernel
theorem d_200_12 : decode ov_m200.2.1 12 = .ok (.invokevirtual 7, 3) := by decide +kernel
theorem b_200_15_2 : ov_ds ov_m200.2.1 15 [.aload_n 0, .lload 5] = true := by decide +kernel
theorem d_200_18 : decode ov_m200.2.1 18 = .ok (.invokevirtual 7, 3) := by decide +kernel
theorem b_200_21_1 : ov_ds ov_m200.2.1 21 [.aload_n 0] = true := by decide +kernel
theorem d_200_22 : decode ov_m200.2.1 22 = .ok (.getfield 11, 3) := by decide +kernel
theorem d_200_25 : decode ov_m200.2.1 25 = .ok (.ireturn, 1) := by decide +kernel
abbrev P_Mo_lay_90 (F : ov_H × ov_Z) (z : ov_Z) (h : ov_H) (w : Int) : Option ov_V → ov_Z → ov_H → Prop := fun r0 z' h' => r0 = none ∧ ov_N F z' h' ∧ ((h' 90 7) = (h 90 7) ∧ (h' 90 8) = (h 90 8) ∧ (h' 90 13) = (h 90 13) ∧ (h' 90 20) = (h 90 20) ∧ (h' 90 22) = (h 90 22) ∧ (h' 90 25) = (h 90 25) ∧ (h' 90 26) = (h 90 26) ∧ (h' 90 28) = (h 90 28) ∧ (h' 90 29) = (h 90 29) ∧ (h' 90 30) = (h 90 30) ∧ (h' 90 34) = (h 90 34) ∧ (h' 90 2) = ov_fdn w (h 90 2) 8) ∧ h' 92 = h 92 ∧ h' 93 = h 93 ∧ h' 94 = h 94 ∧ h' 95 = h 95 ∧ h' 96 = h 96 ∧ h' 97 = h 97 ∧ h' 98 = h 98 ∧ h' 99 = h 99 ∧ h' 100 = h 100 ∧ h' 103 = h 103 ∧ h' 104 = h 104 ∧ h' 105 = h 105 ∧ h' 106 = h 106 ∧ h' 109 = h 109 ∧ h' 114 = h 114
set_option maxHeartbeats 4000000 in
theorem c_Mo_lay_90 {u : ov_U} {F : ov_H × ov_Z} {z : ov_Z} {h : ov_H} (d : Nat) (hd : 0 ≤ d) (U : ov_cap u) (I : ov_N F z h) (w : Int) : ov_T u d ov_m201 [ov_r 90, ov_l w] z h (P_Mo_lay_90 F z h w) := by
  refine ov_en rfl (Nat.le_of_ble_eq_true rfl) ?_
  show ov_R u d ov_m201 0 [(0, ov_r 90), (1, ov_l w)] [] z h (P_Mo_lay_90 F z h w)
  refine ov_blk (ls2 := [(0, ov_r 90), (1, ov_l w), (3, ov_i 56)]) (st2 := []) (pc2 := 3) b_201_0_2 rfl rfl ?_
  have fz : ov_fdn w (h 90 2) (Int.toNat ((56 - 56) / 8)) = h 90 2 := rfl
  have L4 : ∀ (n1 : Nat) (x3 : Int) (z5 : ov_Z) (h6 : ov_H) (I7 : ov_N F z5 h6) (E8 : h6 92 = h 92) (E9 : h6 93 = h 93) (E10 : h6 94 = h 94) (E11 : h6 95 = h 95) (E12 : h6 96 = h 96) (E13 : h6 97 = h 97) (E14 : h6 98 = h 98) (E15 : h6 99 = h 99) (E16 : h6 100 = h 100) (E17 : h6 103 = h 103) (E18 : h6 104 = h 104) (E19 : h6 105 = h 105) (E20 : h6 106 = h 106) (E21 : h6 109 = h 109) (E22 : h6 114 = h 114) (q3 : -8 ≤ x3 ∧ x3 ≤ 56 ∧ x3 % 8 = 0 ∧ (h6 90 2) = ov_fdn w (h 90 2) (Int.toNat ((56 - x3) / 8)) ∧ (h6 90 7) = (h 90 7) ∧ (h6 90 8) = (h 90 8) ∧ (h6 90 13) = (h 90 13) ∧ (h6 90 20) = (h 90 20) ∧ (h6 90 22) = (h 90 22) ∧ (h6 90 25) = (h 90 25) ∧ (h6 90 26) = (h 90 26) ∧ (h6 90 28) = (h 90 28) ∧ (h6 90 29) = (h 90 29) ∧ (h6 90 30) = (h 90 30) ∧ (h6 90 34) = (h 90 34)), x3 + 8 < (n1 : Int) → ov_R u d ov_m201 3 [(0, ov_r 90), (1, ov_l w), (3, ov_i x3)] [] z5 h6 (P_Mo_lay_90 F z h w) := by
    intro n1
    induction n1 with
    | zero =>
      intro x3 z5 h6 I7 E8 E9 E10 E11 E12 E13 E14 E15 E16 E17 E18 E19 E20 E21 E22 q3 hn23
      exact absurd hn23 (by omega)
    | succ n1 ih2 =>
      intro x3 z5 h6 I7 E8 E9 E10 E11 E12 E13 E14 E15 E16 E17 E18 E19 E20 E21 E22 q3 hn23
      refine ov_blk (ls2 := [(0, ov_r 90), (1, ov_l w), (3, ov_i x3)]) (st2 := [ov_i x3]) (pc2 := 4) b_201_3_1 rfl rfl ?_
      refine ov_iflt (tgt := 75) d_201_4 (by decide) (by omega) (fun c24 => ?_) (fun c24 => ?_)
      · skip
        have fe : ov_fdn w (h 90 2) (Int.toNat ((56 - x3) / 8)) = ov_fdn w (h 90 2) 8 := by rw [show Int.toNat ((56 - x3) / 8) = 8 by omega]
        exact ov_retv (st := []) d_201_75 rfl ⟨rfl, I7, (by show (h6 90 7) = (h 90 7) ∧ (h6 90 8) = (h 90 8) ∧ (h6 90 13) = (h 90 13) ∧ (h6 90 20) = (h 90 20) ∧ (h6 90 22) = (h 90 22) ∧ (h6 90 25) = (h 90 25) ∧ (h6 90 26) = (h 90 26) ∧ (h6 90 28) = (h 90 28) ∧ (h6 90 29) = (h 90 29) ∧ (h6 90 30) = (h 90 30) ∧ (h6 90 34) = (h 90 34) ∧ (h6 90 2) = ov_fdn w (h 90 2) 8; omega), E8, E9, E10, E11, E12, E13, E14, E15, E16, E17, E18, E19, E20, E21, E22⟩
      · skip
        refine ov_blk (ls2 := [(0, ov_r 90), (1, ov_l w), (3, ov_i x3)]) (st2 := [ov_i (ov_lshr w x3)]) (pc2 := 11) b_201_7_4 rfl rfl ?_
        refine ov_blk (ls2 := [(0, ov_r 90), (1, ov_l w), (3, ov_i x3), (4, ov_i (ov_and (ov_lshr w x3) 255))]) (st2 := []) (pc2 := 17) b_201_11_3 rfl rfl ?_
        have g25 := ov_andg (ov_lshr w x3) 255
        have g26 := ov_and255 (ov_lshr w x3)
        have fs : (ov_fdn w (h 90 2) (Int.toNat ((56 - x3) / 8)) < 1000 → ((ov_bt w x3) = 10 ∨ (32 ≤ (ov_bt w x3) ∧ (ov_bt w x3) ≤ 126)) → ov_fdn w (h 90 2) (Int.toNat ((56 - (x3 + (-8))) / 8)) = ov_fdn w (h 90 2) (Int.toNat ((56 - x3) / 8)) + 1) ∧ (1000 ≤ ov_fdn w (h 90 2) (Int.toNat ((56 - x3) / 8)) ∨ ¬ ((ov_bt w x3) = 10 ∨ (32 ≤ (ov_bt w x3) ∧ (ov_bt w x3) ≤ 126)) → ov_fdn w (h 90 2) (Int.toNat ((56 - (x3 + (-8))) / 8)) = ov_fdn w (h 90 2) (Int.toNat ((56 - x3) / 8))) := ov_fd_step (by omega) (by omega)
        have fl := ov_lsbI (w := w) (s := x3) (by omega)
        have fr := ov_bt_rng w x3
        refine ov_blk (ls2 := [(0, ov_r 90), (1, ov_l w), (3, ov_i x3), (4, ov_i (ov_and (ov_lshr w x3) 255))]) (st2 := [ov_i 10, ov_i (ov_and (ov_lshr w x3) 255)]) (pc2 := 21) b_201_17_2 rfl rfl ?_
        refine ov_iceq (tgt := 38) d_201_21 (by decide) (by omega) (by omega) (fun c27 => ?_) (fun c27 => ?_)
        · skip
          refine ov_blk (ls2 := [(0, ov_r 90), (1, ov_l w), (3, ov_i x3), (4, ov_i (ov_and (ov_lshr w x3) 255))]) (st2 := [ov_r 90]) (pc2 := 39) b_201_38_1 rfl rfl ?_
          refine ov_getf (v := ov_i (h6 90 2)) d_201_39 fl_Mo_11 (zb_90 I7) (zs_90 I7) rfl ?_
          have g28 := rg_90_2 I7
          refine ov_blk (ls2 := [(0, ov_r 90), (1, ov_l w), (3, ov_i x3), (4, ov_i (ov_and (ov_lshr w x3) 255))]) (st2 := [ov_i 1000, ov_i (h6 90 2)]) (pc2 := 45) b_201_42_1 rfl rfl ?_
          refine ov_icge (tgt := 69) d_201_45 (by decide) (by omega) (by omega) (fun c29 => ?_) (fun c29 => ?_)
          · skip
            refine ov_blk (ls2 := [(0, ov_r 90), (1, ov_l w), (3, ov_i (x3 + (-8))), (4, ov_i (ov_and (ov_lshr w x3) 255))]) (st2 := []) (pc2 := 72) b_201_69_1 rfl rfl ?_
            refine ov_goto (tgt := 3) d_201_72 (by decide) ?_
            refine ov_sub (ls2 := [(0, ov_r 90), (1, ov_l w), (3, ov_i (x3 + (-8)))]) (List.Sublist.subset (by repeat (first | exact List.Sublist.refl _ | apply List.Sublist.cons_cons | apply List.Sublist.cons))) ?_
            exact ih2 (x3 + (-8)) _ _ I7 E8 E9 E10 E11 E12 E13 E14 E15 E16 E17 E18 E19 E20 E21 E22 (by show -8 ≤ (x3 + (-8)) ∧ (x3 + (-8)) ≤ 56 ∧ (x3 + (-8)) % 8 = 0 ∧ (h6 90 2) = ov_fdn w (h 90 2) (Int.toNat ((56 - (x3 + (-8))) / 8)) ∧ (h6 90 7) = (h 90 7) ∧ (h6 90 8) = (h 90 8) ∧ (h6 90 13) = (h 90 13) ∧ (h6 90 20) = (h 90 20) ∧ (h6 90 22) = (h 90 22) ∧ (h6 90 25) = (h 90 25) ∧ (h6 90 26) = (h 90 26) ∧ (h6 90 28) = (h 90 28) ∧ (h6 90 29) = (h 90 29) ∧ (h6 90 30) = (h 90 30) ∧ (h6 90 34) = (h 90 34); omega) (by omega)
          · skip
            refine ov_blk (ls2 := [(0, ov_r 90), (1, ov_l w), (3, ov_i x3), (4, ov_i (ov_and (ov_lshr w x3) 255))]) (st2 := [ov_r 90]) (pc2 := 49) b_201_48_1 rfl rfl ?_
            refine ov_getf (v := ov_r 91) d_201_49 fl_Mo_14 (zb_90 I7) (zs_90 I7) (congrArg ov_r (rg_90_1 I7)) ?_
            refine ov_blk (ls2 := [(0, ov_r 90), (1, ov_l w), (3, ov_i x3), (4, ov_i (ov_and (ov_lshr w x3) 255))]) (st2 := [ov_r 90, ov_r 91]) (pc2 := 53) b_201_52_1 rfl rfl ?_
            refine ov_getf (v := ov_i (h6 90 2)) d_201_53 fl_Mo_11 (zb_90 I7) (zs_90 I7) rfl ?_
            refine ov_blk (ls2 := [(0, ov_r 90), (1, ov_l w), (3, ov_i x3), (4, ov_i (ov_and (ov_lshr w x3) 255))]) (st2 := [ov_i (ov_and (ov_lshr w x3) 255), ov_i (h6 90 2), ov_r 91]) (pc2 := 58) b_201_56_1 rfl rfl ?_
            refine ov_iast d_201_58 (zb_91 I7) (zs_91 I7) (by omega) ?_
            have I31 := ua_91 (k := (h6 90 2)) (x := (ov_and (ov_lshr w x3) 255)) I7 (by omega)
            refine ov_blk (ls2 := [(0, ov_r 90), (1, ov_l w), (3, ov_i x3), (4, ov_i (ov_and (ov_lshr w x3) 255))]) (st2 := [ov_r 90, ov_r 90]) (pc2 := 61) b_201_59_2 rfl rfl ?_
            refine ov_getf (v := ov_i (h6 90 2)) d_201_61 fl_Mo_11 (zb_90 I31) (zs_90 I31) rfl ?_
            refine ov_blk (ls2 := [(0, ov_r 90), (1, ov_l w), (3, ov_i x3), (4, ov_i (ov_and (ov_lshr w x3) 255))]) (st2 := [ov_i ((h6 90 2) + 1), ov_r 90]) (pc2 := 66) b_201_64_2 rfl rfl ?_
            refine ov_putf (x := ((h6 90 2) + 1)) d_201_66 fl_Mo_11 (zb_90 I31) (zs_90 I31) rfl nk_0 rfl ?_
            have I33 := up_90_2 (x := ((h6 90 2) + 1)) I31 (by omega)
            refine ov_blk (ls2 := [(0, ov_r 90), (1, ov_l w), (3, ov_i (x3 + (-8))), (4, ov_i (ov_and (ov_lshr w x3) 255))]) (st2 := []) (pc2 := 72) b_201_69_1 rfl rfl ?_
            refine ov_goto (tgt := 3) d_201_72 (by decide) ?_
            refine ov_sub (ls2 := [(0, ov_r 90), (1, ov_l w), (3, ov_i (x3 + (-8)))]) (List.Sublist.subset (by repeat (first | exact List.Sublist.refl _ | apply List.Sublist.cons_cons | apply List.Sublist.cons))) ?_
            exact ih2 (x3 + (-8)) _ _ I33 E8 E9 E10 E11 E12 E13 E14 E15 E16 E17 E18 E19 E20 E21 E22 (by show -8 ≤ (x3 + (-8)) ∧ (x3 + (-8)) ≤ 56 ∧ (x3 + (-8)) % 8 = 0 ∧ ((h6 90 2) + 1) = ov_fdn w (h 90 2) (Int.toNat ((56 - (x3 + (-8))) / 8)) ∧ (h6 90 7) = (h 90 7) ∧ (h6 90 8) = (h 90 8) ∧ (h6 90 13) = (h 90 13) ∧ (h6 90 20) = (h 90 20) ∧ (h6 90 22) = (h 90 22) ∧ (h6 90 25) = (h 90 25) ∧ (h6 90 26) = (h 90 26) ∧ (h6 90 28) = (h 90 28) ∧ (h6 90 29) = (h 90 29) ∧ (h6 90 30) = (h 90 30) ∧ (h6 90 34) = (h 90 34); omega) (by omega)
        · skip
          refine ov_blk (ls2 := [(0, ov_r 90), (1, ov_l w), (3, ov_i x3), (4, ov_i (ov_and (ov_lshr w x3) 255))]) (st2 := [ov_i 32, ov_i (ov_and (ov_lshr w x3) 255)]) (pc2 := 28) b_201_24_2 rfl rfl ?_
          refine ov_iclt (tgt := 69) d_201_28 (by decide) (by omega) (by omega) (fun c34 => ?_) (fun c34 => ?_)
          · skip
            refine ov_blk (ls2 := [(0, ov_r 90), (1, ov_l w), (3, ov_i (x3 + (-8))), (4, ov_i (ov_and (ov_lshr w x3) 255))]) (st2 := []) (pc2 := 72) b_201_69_1 rfl rfl ?_
            refine ov_goto (tgt := 3) d_201_72 (by decide) ?_
            refine ov_sub (ls2 := [(0, ov_r 90), (1, ov_l w), (3, ov_i (x3 + (-8)))]) (List.Sublist.subset (by repeat (first | exact List.Sublist.refl _ | apply List.Sublist.cons_cons | apply List.Sublist.cons))) ?_
            exact ih2 (x3 + (-8)) _ _ I7 E8 E9 E10 E11 E12 E13 E14 E15 E16 E17 E18 E19 E20 E21 E22 (by show -8 ≤ (x3 + (-8)) ∧ (x3 + (-8)) ≤ 56 ∧ (x3 + (-8)) % 8 = 0 ∧ (h6 90 2) = ov_fdn w (h 90 2) (Int.toNat ((56 - (x3 + (-8))) / 8)) ∧ (h6 90 7) = (h 90 7) ∧ (h6 90 8) = (h 90 8) ∧ (h6 90 13) = (h 90 13) ∧ (h6 90 20) = (h 90 20) ∧ (h6 90 22) = (h 90 22) ∧ (h6 90 25) = (h 90 25) ∧ (h6 90 26) = (h 90 26) ∧ (h6 90 28) = (h 90 28) ∧ (h6 90 29) = (h 90 29) ∧ (h6 90 30) = (h 90 30) ∧ (h6 90 34) = (h 90 34); omega) (by omega)
          · skip
            refine ov_blk (ls2 := [(0, ov_r 90), (1, ov_l w), (3, ov_i x3), (4, ov_i (ov_and (ov_lshr w x3) 255))]) (st2 := [ov_i 126, ov_i (ov_and (ov_lshr w x3) 255)]) (pc2 := 35) b_201_31_2 rfl rfl ?_
            refine ov_icgt (tgt := 69) d_201_35 (by decide) (by omega) (by omega) (fun c35 => ?_) (fun c35 => ?_)
            · skip
              refine ov_blk (ls2 := [(0, ov_r 90), (1, ov_l w), (3, ov_i (x3 + (-8))), (4, ov_i (ov_and (ov_lshr w x3) 255))]) (st2 := []) (pc2 := 72) b_201_69_1 rfl rfl ?_
              refine ov_goto (tgt := 3) d_201_72 (by decide) ?_
              refine ov_sub (ls2 := [(0, ov_r 90), (1, ov_l w), (3, ov_i (x3 + (-8)))]) (List.Sublist.subset (by repeat (first | exact List.Sublist.refl _ | apply List.Sublist.cons_cons | apply List.Sublist.cons))) ?_
              exact ih2 (x3 + (-8)) _ _ I7 E8 E9 E10 E11 E12 E13 E14 E15 E16 E17 E18 E19 E20 E21 E22 (by show -8 ≤ (x3 + (-8)) ∧ (x3 + (-8)) ≤ 56 ∧ (x3 + (-8)) % 8 = 0 ∧ (h6 90 2) = ov_fdn w (h 90 2) (Int.toNat ((56 - (x3 + (-8))) / 8)) ∧ (h6 90 7) = (h 90 7) ∧ (h6 90 8) = (h 90 8) ∧ (h6 90 13) = (h 90 13) ∧ (h6 90 20) = (h 90 20) ∧ (h6 90 22) = (h 90 22) ∧ (h6 90 25) = (h 90 25) ∧ (h6 90 26) = (h 90 26) ∧ (h6 90 28) = (h 90 28) ∧ (h6 90 29) = (h 90 29) ∧ (h6 90 30) = (h 90 30) ∧ (h6 90 34) = (h 90 34); omega) (by omega)
            · skip
              refine ov_blk (ls2 := [(0, ov_r 90), (1, ov_l w), (3, ov_i x3), (4, ov_i (ov_and (ov_lshr w x3) 255))]) (st2 := [ov_r 90]) (pc2 := 39) b_201_38_1 rfl rfl ?_
              refine ov_getf (v := ov_i (h6 90 2)) d_201_39 fl_Mo_11 (zb_90 I7) (zs_90 I7) rfl ?_
              have g36 := rg_90_2 I7
              refine ov_blk (ls2 := [(0, ov_r 90), (1, ov_l w), (3, ov_i x3), (4, ov_i (ov_and (ov_lshr w x3) 255))]) (st2 := [ov_i 1000, ov_i (h6 90 2)]) (pc2 := 45) b_201_42_1 rfl rfl ?_
              refine ov_icge (tgt := 69) d_201_45 (by decide) (by omega) (by omega) (fun c37 => ?_) (fun c37 => ?_)
              · skip
                refine ov_blk (ls2 := [(0, ov_r 90), (1, ov_l w), (3, ov_i (x3 + (-8))), (4, ov_i (ov_and (ov_lshr w x3) 255))]) (st2 := []) (pc2 := 72) b_201_69_1 rfl rfl ?_
                refine ov_goto (tgt := 3) d_201_72 (by decide) ?_
                refine ov_sub (ls2 := [(0, ov_r 90), (1, ov_l w), (3, ov_i (x3 + (-8)))]) (List.Sublist.subset (by repeat (first | exact List.Sublist.refl _ | apply List.Sublist.cons_cons | apply List.Sublist.cons))) ?_
                exact ih2 (x3 + (-8)) _ _ I7 E8 E9 E10 E11 E12 E13 E14 E15 E16 E17 E18 E19 E20 E21 E22 (by show -8 ≤ (x3 + (-8)) ∧ (x3 + (-8)) ≤ 56 ∧ (x3 + (-8)) % 8 = 0 ∧ (h6 90 2) = ov_fdn w (h 90 2) (Int.toNat ((56 - (x3 + (-8))) / 8)) ∧ (h6 90 7) = (h 90 7) ∧ (h6 90 8) = (h 90 8) ∧ (h6 90 13) = (h 90 13) ∧ (h6 90 20) = (h 90 20) ∧ (h6 90 22) = (h 90 22) ∧ (h6 90 25) = (h 90 25) ∧ (h6 90 26) = (h 90 26) ∧ (h6 90 28) = (h 90 28) ∧ (h6 90 29) = (h 90 29) ∧ (h6 90 30) = (h 90 30) ∧ (h6 90 34) = (h 90 34); omega) (by omega)
              · skip
                refine ov_blk (ls2 := [(0, ov_r 90), (1, ov_l w), (3, ov_i x3), (4, ov_i (ov_and (ov_lshr w x3) 255))]) (st2 := [ov_r 90]) (pc2 := 49) b_201_48_1 rfl rfl ?_
                refine ov_getf (v := ov_r 91) d_201_49 fl_Mo_14 (zb_90 I7) (zs_90 I7) (congrArg ov_r (rg_90_1 I7)) ?_
                refine ov_blk (ls2 := [(0, ov_r 90), (1, ov_l w), (3, ov_i x3), (4, ov_i (ov_and (ov_lshr w x3) 255))]) (st2 := [ov_r 90, ov_r 91]) (pc2 := 53) b_201_52_1 rfl rfl ?_
                refine ov_getf (v := ov_i (h6 90 2)) d_201_53 fl_Mo_11 (zb_90 I7) (zs_90 I7) rfl ?_
                refine ov_blk (ls2 := [(0, ov_r 90), (1, ov_l w), (3, ov_i x3), (4, ov_i (ov_and (ov_lshr w x3) 255))]) (st2 := [ov_i (ov_and (ov_lshr w x3) 255), ov_i (h6 90 2), ov_r 91]) (pc2 := 58) b_201_56_1 rfl rfl ?_
                refine ov_iast d_201_58 (zb_91 I7) (zs_91 I7) (by omega) ?_
                have I39 := ua_91 (k := (h6 90 2)) (x := (ov_and (ov_lshr w x3) 255)) I7 (by omega)
                refine ov_blk (ls2 := [(0, ov_r 90), (1, ov_l w), (3, ov_i x3), (4, ov_i (ov_and (ov_lshr w x3) 255))]) (st2 := [ov_r 90, ov_r 90]) (pc2 := 61) b_201_59_2 rfl rfl ?_
                refine ov_getf (v := ov_i (h6 90 2)) d_201_61 fl_Mo_11 (zb_90 I39) (zs_90 I39) rfl ?_
                refine ov_blk (ls2 := [(0, ov_r 90), (1, ov_l w), (3, ov_i x3), (4, ov_i (ov_and (ov_lshr w x3) 255))]) (st2 := [ov_i ((h6 90 2) + 1), ov_r 90]) (pc2 := 66) b_201_64_2 rfl rfl ?_
                refine ov_putf (x := ((h6 90 2) + 1)) d_201_66 fl_Mo_11 (zb_90 I39) (zs_90 I39) rfl nk_0 rfl ?_
                have I41 := up_90_2 (x := ((h6 90 2) + 1)) I39 (by omega)
                refine ov_blk (ls2 := [(0, ov_r 90), (1, ov_l w), (3, ov_i (x3 + (-8))), (4, ov_i (ov_and (ov_lshr w x3) 255))]) (st2 := []) (pc2 := 72) b_201_69_1 rfl rfl ?_
                refine ov_goto (tgt := 3) d_201_72 (by decide) ?_
                refine ov_sub (ls2 := [(0, ov_r 90), (1, ov_l w), (3, ov_i (x3 + (-8)))]) (List.Sublist.subset (by repeat (first | exact List.Sublist.refl _ | apply List.Sublist.cons_cons | apply List.Sublist.cons))) ?_
                exact ih2 (x3 + (-8)) _ _ I41 E8 E9 E10 E11 E12 E13 E14 E15 E16 E17 E18 E19 E20 E21 E22 (by show -8 ≤ (x3 + (-8)) ∧ (x3 + (-8)) ≤ 56 ∧ (x3 + (-8)) % 8 = 0 ∧ ((h6 90 2) + 1) = ov_fdn w (h 90 2) (Int.toNat ((56 - (x3 + (-8))) / 8)) ∧ (h6 90 7) = (h 90 7) ∧ (h6 90 8) = (h 90 8) ∧ (h6 90 13) = (h 90 13) ∧ (h6 90 20) = (h 90 20) ∧ (h6 90 22) = (h 90 22) ∧ (h6 90 25) = (h 90 25) ∧ (h6 90 26) = (h 90 26) ∧ (h6 90 28) = (h 90 28) ∧ (h6 90 29) = (h 90 29) ∧ (h6 90 30) = (h 90 30) ∧ (h6 90 34) = (h 90 34); omega) (by omega)
  exact L4 100 56 _ _ I rfl rfl rfl rfl rfl rfl rfl rfl rfl rfl rfl rfl rfl rfl rfl (by show -8 ≤ 56 ∧ 56 ≤ 56 ∧ 56 % 8 = 0 ∧ (h 90 2) = ov_fdn w (h 90 2) (Int.toNat ((56 - 56) / 8)) ∧ (h 90 7) = (h 90 7) ∧ (h 90 8) = (h 90 8) ∧ (h 90 13) = (h 90 13) ∧ (h 90 20) = (h 90 20) ∧ (h 90 22) = (h 90 22) ∧ (h 90 25) = (h 90 25) ∧ (h 90 26) = (h 90 26) ∧ (h 90 28) = (h 90 28) ∧ (h 90 29) = (h 90 29) ∧ (h 90 30) = (h 90 30) ∧ (h 90 34) = (h 90 34); omega) (by omega)
abbrev P_Mo_feed_90 (F : ov_H × ov_Z) (z : ov_Z) (h : ov_H) (a : Int) (b : Int) (c : Int) : Option ov_V → ov_Z → ov_H → Prop := fun r0 z' h' => ∃ r : Int, r0 = some (ov_i r) ∧ ov_N F z' h' ∧ ((h' 90 7) = (h 90 7) ∧ (h' 90 8) = (h 90 8) ∧ (h' 90 13) = (h 90 13) ∧ (h' 90 20) = (h 90 20) ∧ (h' 90 22) = (h 90 22) ∧ (h' 90 25) = (h 90 25) ∧ (h' 90 26) = (h 90 26) ∧ (h' 90 28) = (h 90 28) ∧ (h' 90 29) = (h 90 29) ∧ (h' 90 30) = (h 90 30) ∧ (h' 90 34) = (h 90 34) ∧ r = (h' 90 2) ∧ (h' 90 2) = ov_fdn c (ov_fdn b (ov_fdn a (h 90 2) 8) 8) 8) ∧ h' 92 = h 92 ∧ h' 93 = h 93 ∧ h' 94 = h 94 ∧ h' 95 = h 95 ∧ h' 96 = h 96 ∧ h' 97 = h 97 ∧ h' 98 = h 98 ∧ h' 99 = h 99 ∧ h' 100 = h 100 ∧ h' 103 = h 103 ∧ h' 104 = h 104 ∧ h' 105 = h 105 ∧ h' 106 = h 106 ∧ h' 109 = h 109 ∧ h' 114 = h 114
set_option maxHeartbeats 4000000 in
theorem c_Mo_feed_90 {u : ov_U} {F : ov_H × ov_Z} {z : ov_Z} {h : ov_H} (d : Nat) (hd : 1 ≤ d) (U : ov_cap u) (I : ov_N F z h) (a : Int) (b : Int) (c : Int) : ov_T u d ov_m200 [ov_r 90, ov_l a, ov_l b, ov_l c] z h (P_Mo_feed_90 F z h a b c) := by
  refine ov_en rfl (Nat.le_of_ble_eq_true rfl) ?_
  show ov_R u d ov_m200 0 [(0, ov_r 90), (1, ov_l a), (3, ov_l b), (5, ov_l c)] [] z h (P_Mo_feed_90 F z h a b c)
  refine ov_blk (ls2 := [(0, ov_r 90), (1, ov_l a), (3, ov_l b), (5, ov_l c)]) (st2 := [ov_i 0, ov_r 90]) (pc2 := 2) b_200_0_2 rfl rfl ?_
  refine ov_putf (x := 0) d_200_2 fl_Mo_1 (zb_90 I) (zs_90 I) rfl nk_0 rfl ?_
  have I1 := up_90_0 (x := 0) I (by omega)
  refine ov_blk (ls2 := [(0, ov_r 90), (1, ov_l a), (3, ov_l b), (5, ov_l c)]) (st2 := [ov_l a, ov_r 90]) (pc2 := 7) b_200_5_2 rfl rfl ?_
  refine ov_cV (as := [ov_l a]) (st := []) (d2 := d - 1) d_200_7 lk_Mo_7 rfl (Nat.le_of_ble_eq_true rfl) (c := 1) (zb_90 I1) (zs_90 I1) ⟨by decide, rfl⟩ (by omega) (c_Mo_lay_90 (d - 1) (by omega) U I1 a) ?_
  rintro _ z18 h19 ⟨rfl, I20, f2, e3, e4, e5, e6, e7, e8, e9, e10, e11, e12, e13, e14, e15, e16, e17⟩
  have E21 : h19 92 = h 92 := e3
  have E22 : h19 93 = h 93 := e4
  have E23 : h19 94 = h 94 := e5
  have E24 : h19 95 = h 95 := e6
  have E25 : h19 96 = h 96 := e7
  have E26 : h19 97 = h 97 := e8
  have E27 : h19 98 = h 98 := e9
  have E28 : h19 99 = h 99 := e10
  have E29 : h19 100 = h 100 := e11
  have E30 : h19 103 = h 103 := e12
  have E31 : h19 104 = h 104 := e13
  have E32 : h19 105 = h 105 := e14
  have E33 : h19 106 = h 106 := e15
  have E34 : h19 109 = h 109 := e16
  have E35 : h19 114 = h 114 := e17
  show ov_R u d ov_m200 10 [(0, ov_r 90), (1, ov_l a), (3, ov_l b), (5, ov_l c)] [] z18 h19 (P_Mo_feed_90 F z h a b c)
  have f36 : (h19 90 7) = (h 90 7) ∧ (h19 90 8) = (h 90 8) ∧ (h19 90 13) = (h 90 13) ∧ (h19 90 20) = (h 90 20) ∧ (h19 90 22) = (h 90 22) ∧ (h19 90 25) = (h 90 25) ∧ (h19 90 26) = (h 90 26) ∧ (h19 90 28) = (h 90 28) ∧ (h19 90 29) = (h 90 29) ∧ (h19 90 30) = (h 90 30) ∧ (h19 90 34) = (h 90 34) ∧ (h19 90 2) = ov_fdn a (h 90 2) 8 := f2
  clear f2
  refine ov_blk (ls2 := [(0, ov_r 90), (1, ov_l a), (3, ov_l b), (5, ov_l c)]) (st2 := [ov_l b, ov_r 90]) (pc2 := 12) b_200_10_2 rfl rfl ?_
  refine ov_cV (as := [ov_l b]) (st := []) (d2 := d - 1) d_200_12 lk_Mo_7 rfl (Nat.le_of_ble_eq_true rfl) (c := 1) (zb_90 I20) (zs_90 I20) ⟨by decide, rfl⟩ (by omega) (c_Mo_lay_90 (d - 1) (by omega) U I20 b) ?_
  rintro _ z53 h54 ⟨rfl, I55, f37, e38, e39, e40, e41, e42, e43, e44, e45, e46, e47, e48, e49, e50, e51, e52⟩
  have E56 : h54 92 = h 92 := Eq.trans e38 E21
  have E57 : h54 93 = h 93 := Eq.trans e39 E22
  have E58 : h54 94 = h 94 := Eq.trans e40 E23
  have E59 : h54 95 = h 95 := Eq.trans e41 E24
  have E60 : h54 96 = h 96 := Eq.trans e42 E25
  have E61 : h54 97 = h 97 := Eq.trans e43 E26
  have E62 : h54 98 = h 98 := Eq.trans e44 E27
  have E63 : h54 99 = h 99 := Eq.trans e45 E28
  have E64 : h54 100 = h 100 := Eq.trans e46 E29
  have E65 : h54 103 = h 103 := Eq.trans e47 E30
  have E66 : h54 104 = h 104 := Eq.trans e48 E31
  have E67 : h54 105 = h 105 := Eq.trans e49 E32
  have E68 : h54 106 = h 106 := Eq.trans e50 E33
  have E69 : h54 109 = h 109 := Eq.trans e51 E34
  have E70 : h54 114 = h 114 := Eq.trans e52 E35
  show ov_R u d ov_m200 15 [(0, ov_r 90), (1, ov_l a), (3, ov_l b), (5, ov_l c)] [] z53 h54 (P_Mo_feed_90 F z h a b c)
  have f71 : (h54 90 7) = (h19 90 7) ∧ (h54 90 8) = (h19 90 8) ∧ (h54 90 13) = (h19 90 13) ∧ (h54 90 20) = (h19 90 20) ∧ (h54 90 22) = (h19 90 22) ∧ (h54 90 25) = (h19 90 25) ∧ (h54 90 26) = (h19 90 26) ∧ (h54 90 28) = (h19 90 28) ∧ (h54 90 29) = (h19 90 29) ∧ (h54 90 30) = (h19 90 30) ∧ (h54 90 34) = (h19 90 34) ∧ (h54 90 2) = ov_fdn b (h19 90 2) 8 := f37
  clear f37
  refine ov_blk (ls2 := [(0, ov_r 90), (1, ov_l a), (3, ov_l b), (5, ov_l c)]) (st2 := [ov_l c, ov_r 90]) (pc2 := 18) b_200_15_2 rfl rfl ?_
  refine ov_cV (as := [ov_l c]) (st := []) (d2 := d - 1) d_200_18 lk_Mo_7 rfl (Nat.le_of_ble_eq_true rfl) (c := 1) (zb_90 I55) (zs_90 I55) ⟨by decide, rfl⟩ (by omega) (c_Mo_lay_90 (d - 1) (by omega) U I55 c) ?_
  rintro _ z88 h89 ⟨rfl, I90, f72, e73, e74, e75, e76, e77, e78, e79, e80, e81, e82, e83, e84, e85, e86, e87⟩
  have E91 : h89 92 = h 92 := Eq.trans e73 E56
  have E92 : h89 93 = h 93 := Eq.trans e74 E57
  have E93 : h89 94 = h 94 := Eq.trans e75 E58
  have E94 : h89 95 = h 95 := Eq.trans e76 E59
  have E95 : h89 96 = h 96 := Eq.trans e77 E60
  have E96 : h89 97 = h 97 := Eq.trans e78 E61
  have E97 : h89 98 = h 98 := Eq.trans e79 E62
  have E98 : h89 99 = h 99 := Eq.trans e80 E63
  have E99 : h89 100 = h 100 := Eq.trans e81 E64
  have E100 : h89 103 = h 103 := Eq.trans e82 E65
  have E101 : h89 104 = h 104 := Eq.trans e83 E66
  have E102 : h89 105 = h 105 := Eq.trans e84 E67
  have E103 : h89 106 = h 106 := Eq.trans e85 E68
  have E104 : h89 109 = h 109 := Eq.trans e86 E69
  have E105 : h89 114 = h 114 := Eq.trans e87 E70
  show ov_R u d ov_m200 21 [(0, ov_r 90), (1, ov_l a), (3, ov_l b), (5, ov_l c)] [] z88 h89 (P_Mo_feed_90 F z h a b c)
  have f106 : (h89 90 7) = (h54 90 7) ∧ (h89 90 8) = (h54 90 8) ∧ (h89 90 13) = (h54 90 13) ∧ (h89 90 20) = (h54 90 20) ∧ (h89 90 22) = (h54 90 22) ∧ (h89 90 25) = (h54 90 25) ∧ (h89 90 26) = (h54 90 26) ∧ (h89 90 28) = (h54 90 28) ∧ (h89 90 29) = (h54 90 29) ∧ (h89 90 30) = (h54 90 30) ∧ (h89 90 34) = (h54 90 34) ∧ (h89 90 2) = ov_fdn c (h54 90 2) 8 := f72
  clear f72
  refine ov_blk (ls2 := [(0, ov_r 90), (1, ov_l a), (3, ov_l b), (5, ov_l c)]) (st2 := [ov_r 90]) (pc2 := 22) b_200_21_1 rfl rfl ?_
  refine ov_getf (v := ov_i (h89 90 2)) d_200_22 fl_Mo_11 (zb_90 I90) (zs_90 I90) rfl ?_
  have g107 := rg_90_2 I90
  have ff : (h89 90 2) = ov_fdn c (ov_fdn b (ov_fdn a (h 90 2) 8) 8) 8 := by simp only [*]
  exact ov_reti (st := []) d_200_25 rfl ⟨_, rfl, I90, (by show (h89 90 7) = (h 90 7) ∧ (h89 90 8) = (h 90 8) ∧ (h89 90 13) = (h 90 13) ∧ (h89 90 20) = (h 90 20) ∧ (h89 90 22) = (h 90 22) ∧ (h89 90 25) = (h 90 25) ∧ (h89 90 26) = (h 90 26) ∧ (h89 90 28) = (h 90 28) ∧ (h89 90 29) = (h 90 29) ∧ (h89 90 30) = (h 90 30) ∧ (h89 90 34) = (h 90 34) ∧ (h89 90 2) = (h89 90 2) ∧ (h89 90 2) = ov_fdn c (ov_fdn b (ov_fdn a (h 90 2) 8) 8) 8; omega), E91, E92, E93, E94, E95, E96, E97, E98, E99, E100, E101, E102, E103, E104, E105⟩

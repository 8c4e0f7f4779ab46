theorem b_90_0_1 : ov_ds ov_m90.2.1 0 [.aload_n 0] = true := by decide +kernel
theorem d_90_1 : decode ov_m90.2.1 1 = .ok (.invokevirtual 54, 3) := by decide +kernel
theorem b_90_4_3 : ov_ds ov_m90.2.1 4 [.istore_n 2, .iload_n 2, .iconst (-1)] = true := by decide +kernel
theorem d_90_7 : decode ov_m90.2.1 7 = .ok (.if_icmp .ne 9, 3) := by decide +kernel
theorem b_90_16_1 : ov_ds ov_m90.2.1 16 [.aload_n 1] = true := by decide +kernel
theorem d_90_17 : decode ov_m90.2.1 17 = .ok (.getfield 62, 3) := by decide +kernel
theorem b_90_20_2 : ov_ds ov_m90.2.1 20 [.istore_n 3, .aload_n 0] = true := by decide +kernel
theorem d_90_22 : decode ov_m90.2.1 22 = .ok (.getfield 15, 3) := by decide +kernel
theorem b_90_25_2 : ov_ds ov_m90.2.1 25 [.iload_n 3, .iload_n 2] = true := by decide +kernel
theorem d_90_27 : decode ov_m90.2.1 27 = .ok (.invokevirtual 65, 3) := by decide +kernel
theorem d_90_30 : decode ov_m90.2.1 30 = .ok (.ifCond .ne 15, 3) := by decide +kernel
theorem b_90_45_2 : ov_ds ov_m90.2.1 45 [.aload_n 0, .iconst 2] = true := by decide +kernel
theorem d_90_47 : decode ov_m90.2.1 47 = .ok (.invokevirtual 58, 3) := by decide +kernel
theorem d_90_50 : decode ov_m90.2.1 50 = .ok (.ireturn, 1) := by decide +kernel
theorem b_90_33_1 : ov_ds ov_m90.2.1 33 [.aload_n 0] = true := by decide +kernel
theorem d_90_34 : decode ov_m90.2.1 34 = .ok (.getfield 15, 3) := by decide +kernel
theorem b_90_37_2 : ov_ds ov_m90.2.1 37 [.iload_n 3, .iload_n 2] = true := by decide +kernel
theorem d_90_39 : decode ov_m90.2.1 39 = .ok (.invokevirtual 69, 3) := by decide +kernel
theorem d_90_42 : decode ov_m90.2.1 42 = .ok (.ifCond .eq 9, 3) := by decide +kernel
theorem b_90_51_1 : ov_ds ov_m90.2.1 51 [.aload_n 1] = true := by decide +kernel
theorem d_90_52 : decode ov_m90.2.1 52 = .ok (.getfield 72, 3) := by decide +kernel
theorem b_90_55_1 : ov_ds ov_m90.2.1 55 [.bipush 13] = true := by decide +kernel
theorem d_90_57 : decode ov_m90.2.1 57 = .ok (.if_icmp .lt 9, 3) := by decide +kernel
theorem b_90_66_1 : ov_ds ov_m90.2.1 66 [.aload_n 0] = true := by decide +kernel
theorem d_90_67 : decode ov_m90.2.1 67 = .ok (.getfield 9, 3) := by decide +kernel
theorem d_90_70 : decode ov_m90.2.1 70 = .ok (.invokevirtual 75, 3) := by decide +kernel
theorem b_90_73_3 : ov_ds ov_m90.2.1 73 [.aload_n 0, .iconst 0, .sipush 9999] = true := by decide +kernel
theorem d_90_78 : decode ov_m90.2.1 78 = .ok (.invokevirtual 78, 3) := by decide +kernel
theorem d_90_81 : decode ov_m90.2.1 81 = .ok (.ifCond .ne 5, 3) := by decide +kernel
theorem b_90_86_4 : ov_ds ov_m90.2.1 86 [.aload_n 1, .iload_n 3, .iload_n 2, .aload_n 0] = true := by decide +kernel
theorem d_90_90 : decode ov_m90.2.1 90 = .ok (.getfield 81, 3) := by decide +kernel
theorem b_90_93_1 : ov_ds ov_m90.2.1 93 [.aload_n 0] = true := by decide +kernel
theorem d_90_94 : decode ov_m90.2.1 94 = .ok (.getfield 15, 3) := by decide +kernel
theorem b_90_97_2 : ov_ds ov_m90.2.1 97 [.iload_n 3, .iload_n 2] = true := by decide +kernel
theorem d_90_99 : decode ov_m90.2.1 99 = .ok (.invokevirtual 84, 3) := by decide +kernel
theorem d_90_102 : decode ov_m90.2.1 102 = .ok (.invokevirtual 88, 3) := by decide +kernel
theorem b_90_105_2 : ov_ds ov_m90.2.1 105 [.aload_n 0, .bipush 59] = true := by decide +kernel
theorem d_90_108 : decode ov_m90.2.1 108 = .ok (.invokevirtual 92, 3) := by decide +kernel
theorem d_90_111 : decode ov_m90.2.1 111 = .ok (.ireturn, 1) := by decide +kernel
theorem b_90_84_1 : ov_ds ov_m90.2.1 84 [.iconst 0] = true := by decide +kernel
theorem d_90_85 : decode ov_m90.2.1 85 = .ok (.ireturn, 1) := by decide +kernel
theorem b_90_60_2 : ov_ds ov_m90.2.1 60 [.aload_n 0, .iconst 5] = true := by decide +kernel
theorem d_90_62 : decode ov_m90.2.1 62 = .ok (.invokevirtual 58, 3) := by decide +kernel
theorem d_90_65 : decode ov_m90.2.1 65 = .ok (.ireturn, 1) := by decide +kernel
theorem b_90_10_2 : ov_ds ov_m90.2.1 10 [.aload_n 0, .iconst 1] = true := by decide +kernel
theorem d_90_12 : decode ov_m90.2.1 12 = .ok (.invokevirtual 58, 3) := by decide +kernel
theorem d_90_15 : decode ov_m90.2.1 15 = .ok (.ireturn, 1) := by decide +kernel
theorem b_89_0_2 : ov_ds ov_m89.2.1 0 [.aload_n 0, .aload_n 1] = true := by decide +kernel
theorem d_89_2 : decode ov_m89.2.1 2 = .ok (.putfield 15, 3) := by decide +kernel
theorem b_89_5_1 : ov_ds ov_m89.2.1 5 [.aload_n 2] = true := by decide +kernel
theorem d_89_6 : decode ov_m89.2.1 6 = .ok (.invokevirtual 47, 3) := by decide +kernel
theorem b_89_9_2 : ov_ds ov_m89.2.1 9 [.aload_n 0, .iconst 0] = true := by decide +kernel
theorem d_89_11 : decode ov_m89.2.1 11 = .ok (.putfield 24, 3) := by decide +kernel
theorem b_89_14_1 : ov_ds ov_m89.2.1 14 [.aload_n 0] = true := by decide +kernel
theorem d_89_15 : decode ov_m89.2.1 15 = .ok (.getfield 9, 3) := by decide +kernel
theorem d_89_18 : decode ov_m89.2.1 18 = .ok (.invokevirtual 28, 3) := by decide +kernel
theorem b_89_21_4 : ov_ds ov_m89.2.1 21 [.iconst 1, .istore_n 3, .iconst 0, .istore 4] = true := by decide +kernel
theorem b_89_26_2 : ov_ds ov_m89.2.1 26 [.iload 4, .sipush 1000] = true := by decide +kernel
theorem d_89_31 : decode ov_m89.2.1 31 = .ok (.if_icmp .ge 29, 3) := by decide +kernel
theorem b_89_60_1 : ov_ds ov_m89.2.1 60 [.aload_n 0] = true := by decide +kernel
theorem d_89_61 : decode ov_m89.2.1 61 = .ok (.getfield 9, 3) := by decide +kernel
theorem d_89_64 : decode ov_m89.2.1 64 = .ok (.invokevirtual 46, 3) := by decide +kernel
theorem b_89_67_1 : ov_ds ov_m89.2.1 67 [.aload_n 0] = true := by decide +kernel
theorem d_89_68 : decode ov_m89.2.1 68 = .ok (.getfield 24, 3) := by decide +kernel
theorem d_89_71 : decode ov_m89.2.1 71 = .ok (.ireturn, 1) := by decide +kernel
theorem b_89_34_1 : ov_ds ov_m89.2.1 34 [.iload_n 3] = true := by decide +kernel
theorem d_89_35 : decode ov_m89.2.1 35 = .ok (.ifCond .eq 25, 3) := by decide +kernel
theorem b_89_38_1 : ov_ds ov_m89.2.1 38 [.aload_n 0] = true := by decide +kernel
theorem d_89_39 : decode ov_m89.2.1 39 = .ok (.getfield 9, 3) := by decide +kernel
theorem d_89_42 : decode ov_m89.2.1 42 = .ok (.getfield 37, 3) := by decide +kernel
theorem d_89_45 : decode ov_m89.2.1 45 = .ok (.ifCond .eq 15, 3) := by decide +kernel
theorem b_89_48_2 : ov_ds ov_m89.2.1 48 [.aload_n 0, .aload_n 2] = true := by decide +kernel
theorem d_89_50 : decode ov_m89.2.1 50 = .ok (.invokevirtual 50, 3) := by decide +kernel
theorem b_89_53_2 : ov_ds ov_m89.2.1 53 [.istore_n 3, .iinc 4 1] = true := by decide +kernel
theorem d_89_57 : decode ov_m89.2.1 57 = .ok (.goto (-31), 3) := by decide +kernel
theorem b_24_0_2 : ov_ds ov_m24.2.1 0 [.aload_n 0, .aload_n 1] = true := by decide +kernel
theorem d_24_2 : decode ov_m24.2.1 2 = .ok (.putfield 15, 3) := by decide +kernel
theorem b_24_5_1 : ov_ds ov_m24.2.1 5 [.aload_n 0] = true := by decide +kernel
theorem d_24_6 : decode ov_m24.2.1 6 = .ok (.getfield 15, 3) := by decide +kernel
theorem d_24_9 : decode ov_m24.2.1 9 = .ok (.invokevirtual 19, 3) := by decide +kernel
theorem b_24_12_2 : ov_ds ov_m24.2.1 12 [.aload_n 0, .iconst 0] = true := by decide +kernel
theorem d_24_14 : decode ov_m24.2.1 14 = .ok (.putfield 24, 3) := by decide +kernel
theorem b_24_17_1 : ov_ds ov_m24.2.1 17 [.aload_n 0] = true := by decide +kernel
theorem d_24_18 : decode ov_m24.2.1 18 = .ok (.getfield 9, 3) := by decide +kernel
theorem d_24_21 : decode ov_m24.2.1 21 = .ok (.invokevirtual 28, 3) := by decide +kernel
theorem b_24_24_1 : ov_ds ov_m24.2.1 24 [.aload_n 0] = true := by decide +kernel
theorem d_24_25 : decode ov_m24.2.1 25 = .ok (.invokevirtual 33, 3) := by decide +kernel
theorem b_24_28_3 : ov_ds ov_m24.2.1 28 [.istore_n 2, .iconst 0, .istore_n 3] = true := by decide +kernel
theorem b_24_31_2 : ov_ds ov_m24.2.1 31 [.iload_n 3, .sipush 1000] = true := by decide +kernel
theorem d_24_35 : decode ov_m24.2.1 35 = .ok (.if_icmp .ge 28, 3) := by decide +kernel
theorem b_24_63_1 : ov_ds ov_m24.2.1 63 [.iload_n 2] = true := by decide +kernel
theorem d_24_64 : decode ov_m24.2.1 64 = .ok (.ifCond .eq 10, 3) := by decide +kernel
theorem b_24_74_1 : ov_ds ov_m24.2.1 74 [.aload_n 0] = true := by decide +kernel
theorem d_24_75 : decode ov_m24.2.1 75 = .ok (.getfield 9, 3) := by decide +kernel
theorem d_24_78 : decode ov_m24.2.1 78 = .ok (.invokevirtual 46, 3) := by decide +kernel
theorem b_24_81_1 : ov_ds ov_m24.2.1 81 [.aload_n 0] = true := by decide +kernel
theorem d_24_82 : decode ov_m24.2.1 82 = .ok (.getfield 24, 3) := by decide +kernel
theorem d_24_85 : decode ov_m24.2.1 85 = .ok (.ireturn, 1) := by decide +kernel
theorem b_24_67_1 : ov_ds ov_m24.2.1 67 [.aload_n 0] = true := by decide +kernel
theorem d_24_68 : decode ov_m24.2.1 68 = .ok (.getfield 15, 3) := by decide +kernel
theorem d_24_71 : decode ov_m24.2.1 71 = .ok (.invokevirtual 43, 3) := by decide +kernel
theorem b_24_38_1 : ov_ds ov_m24.2.1 38 [.iload_n 2] = true := by decide +kernel
theorem d_24_39 : decode ov_m24.2.1 39 = .ok (.ifCond .eq 24, 3) := by decide +kernel
theorem b_24_42_1 : ov_ds ov_m24.2.1 42 [.aload_n 0] = true := by decide +kernel
theorem d_24_43 : decode ov_m24.2.1 43 = .ok (.getfield 9, 3) := by decide +kernel
theorem d_24_46 : decode ov_m24.2.1 46 = .ok (.getfield 37, 3) := by decide +kernel
theorem d_24_49 : decode ov_m24.2.1 49 = .ok (.ifCond .eq 14, 3) := by decide +kernel
theorem b_24_52_1 : ov_ds ov_m24.2.1 52 [.aload_n 0] = true := by decide +kernel
theorem d_24_53 : decode ov_m24.2.1 53 = .ok (.invokevirtual 40, 3) := by decide +kernel
theorem b_24_56_2 : ov_ds ov_m24.2.1 56 [.istore_n 2, .iinc 3 1] = true := by decide +kernel
theorem d_24_60 : decode ov_m24.2.1 60 = .ok (.goto (-29), 3) := by decide +kernel
abbrev P_Reader_readStep_3_82_k3_1_58 (F : ov_H) (z : ov_Z) (h : ov_H)  : Option ov_V → ov_Z → ov_H → Prop := fun r0 z' h' => ∃ r : Int, r0 = some (ov_i r) ∧ ov_I F z' h' ∧ ((r = 0 ∧ 1 ≤ (h' 3 2) ∨ r = 1) ∧ (h' 36 7) = (h 36 7) ∧ (h' 1 1) = (h 1 1) ∧ (h' 90 2) = (h 90 2) ∧ (h' 0 10) = (h 0 10) ∧ (h' 0 11) = (h 0 11) ∧ (h' 0 12) = (h 0 12) ∧ (h' 0 13) = (h 0 13) ∧ (h' 3 1) = (h 3 1) ∧ (h' 36 8) = (h 36 8) ∧ (h' 46 3) = (h 46 3) ∧ (h' 46 4) = (h 46 4) ∧ (h' 49 4) = (h 49 4) ∧ (h' 49 5) = (h 49 5) ∧ (h' 64 0) = (h 64 0) ∧ (h' 76 0) = (h 76 0))
set_option maxHeartbeats 4000000 in
theorem c_Reader_readStep_3_82_k3_1_58 {u : ov_U} {F : ov_H} {z : ov_Z} {h : ov_H} (d : Nat) (hd : 6 ≤ d) (U : ov_cap u) (I : ov_I F z h) (hw : ov_kw 72535549176877750482370570 F) (k0 : h 3 1 = 58) : ov_T u d ov_m90 [ov_r 3, ov_r 82] z h (P_Reader_readStep_3_82_k3_1_58 F z h) := by
  refine ov_en rfl (Nat.le_of_ble_eq_true rfl) ?_
  show ov_R u d ov_m90 0 [(0, ov_r 3), (1, ov_r 82)] [] z h (P_Reader_readStep_3_82_k3_1_58 F z h)
  refine ov_blk (ls2 := [(0, ov_r 3), (1, ov_r 82)]) (st2 := [ov_r 3]) (pc2 := 1) b_90_0_1 rfl rfl ?_
  refine ov_cV (as := []) (st := []) (d2 := d - 1) d_90_1 lk_Reader_54 rfl (Nat.le_of_ble_eq_true rfl) (c := 6) (zb_3 I) (zs_3 I) ⟨by decide, rfl⟩ (by omega) (c_Reader_wayTold_3_k3_1_58 (d - 1) (by omega) U I k0) ?_
  rintro _ _ _ ⟨v2, rfl, rfl, rfl, f1⟩
  show ov_R u d ov_m90 4 [(0, ov_r 3), (1, ov_r 82)] [ov_i v2] z h (P_Reader_readStep_3_82_k3_1_58 F z h)
  have f3 : -1 ≤ v2 ∧ v2 ≤ 1 := f1
  clear f1
  refine ov_blk (ls2 := [(0, ov_r 3), (1, ov_r 82), (2, ov_i v2)]) (st2 := [ov_i (-1), ov_i v2]) (pc2 := 7) b_90_4_3 rfl rfl ?_
  refine ov_icne (tgt := 16) d_90_7 (by decide) (by omega) (by omega) (fun c4 => ?_) (fun c4 => ?_)
  · skip
    refine ov_blk (ls2 := [(0, ov_r 3), (1, ov_r 82), (2, ov_i v2)]) (st2 := [ov_r 82]) (pc2 := 17) b_90_16_1 rfl rfl ?_
    refine ov_getf (v := ov_i (h 82 1)) d_90_17 fl_Reader_62 (zb_82 I) (zs_82 I) rfl ?_
    have g5 := rg_82_1 I
    refine ov_blk (ls2 := [(0, ov_r 3), (1, ov_r 82), (2, ov_i v2), (3, ov_i (h 82 1))]) (st2 := [ov_r 3]) (pc2 := 22) b_90_20_2 rfl rfl ?_
    refine ov_getf (v := ov_r 58) d_90_22 fl_Reader_15 (zb_3 I) (zs_3 I) (congrArg ov_r k0) ?_
    refine ov_blk (ls2 := [(0, ov_r 3), (1, ov_r 82), (2, ov_i v2), (3, ov_i (h 82 1))]) (st2 := [ov_i v2, ov_i (h 82 1), ov_r 58]) (pc2 := 27) b_90_25_2 rfl rfl ?_
    refine ov_cV (as := [ov_i (h 82 1), ov_i v2]) (st := []) (d2 := d - 1) d_90_27 lk_Reader_65 rfl (Nat.le_of_ble_eq_true rfl) (c := 9) (zb_58 I) (zs_58 I) ⟨by decide, rfl⟩ (by omega) (c_Town_isBeyond_58 (d - 1) (by omega) U I (h 82 1) v2 (by omega) (by omega) (by omega)) ?_
    rintro _ _ _ ⟨v7, rfl, rfl, rfl, f6⟩
    show ov_R u d ov_m90 30 [(0, ov_r 3), (1, ov_r 82), (2, ov_i v2), (3, ov_i (h 82 1))] [ov_i v7] z h (P_Reader_readStep_3_82_k3_1_58 F z h)
    have f8 : (v7 = 0 ∨ v7 = 1) ∧ (v7 = 0 → (v2 = 0 → (h 82 1) % 6 < (h 58 0) - 1 ∧ (h 58 0) ≤ 6) ∧ (¬ v2 = 0 → (h 82 1) / 6 < (h 58 1) - 1 ∧ (h 58 1) ≤ 9)) := f6
    clear f6
    refine ov_ifne (tgt := 45) d_90_30 (by decide) (by omega) (fun c9 => ?_) (fun c9 => ?_)
    · skip
      refine ov_blk (ls2 := [(0, ov_r 3), (1, ov_r 82), (2, ov_i v2), (3, ov_i (h 82 1))]) (st2 := [ov_i 2, ov_r 3]) (pc2 := 47) b_90_45_2 rfl rfl ?_
      refine ov_cV (as := [ov_i 2]) (st := []) (d2 := d - 1) d_90_47 lk_Reader_58 rfl (Nat.le_of_ble_eq_true rfl) (c := 6) (zb_3 I) (zs_3 I) ⟨by decide, rfl⟩ (by omega) (c_Reader_fail_3_k3_1_58 (d - 1) (by omega) U I (ov_kws hw (by decide +kernel)) 2 k0 (by omega) (by omega)) ?_
      rintro _ z12 h13 ⟨v11, rfl, I14, f10⟩
      show ov_R u d ov_m90 50 [(0, ov_r 3), (1, ov_r 82), (2, ov_i v2), (3, ov_i (h 82 1))] [ov_i v11] z12 h13 (P_Reader_readStep_3_82_k3_1_58 F z h)
      have f15 : v11 = 0 ∧ 1 ≤ (h13 3 2) ∧ (h13 36 7) = (h 36 7) ∧ (h13 1 1) = (h 1 1) ∧ (h13 90 2) = (h 90 2) ∧ (h13 0 10) = (h 0 10) ∧ (h13 0 11) = (h 0 11) ∧ (h13 0 12) = (h 0 12) ∧ (h13 0 13) = (h 0 13) ∧ (h13 3 1) = (h 3 1) ∧ (h13 36 8) = (h 36 8) ∧ (h13 46 3) = (h 46 3) ∧ (h13 46 4) = (h 46 4) ∧ (h13 49 4) = (h 49 4) ∧ (h13 49 5) = (h 49 5) ∧ (h13 64 0) = (h 64 0) ∧ (h13 76 0) = (h 76 0) := f10
      clear f10
      have e16 : h13 3 1 = 58 := by omega
      exact ov_retz (st := []) d_90_50 rfl (by omega) ⟨_, rfl, I14, (by show (v11 = 0 ∧ 1 ≤ (h13 3 2) ∨ v11 = 1) ∧ (h13 36 7) = (h 36 7) ∧ (h13 1 1) = (h 1 1) ∧ (h13 90 2) = (h 90 2) ∧ (h13 0 10) = (h 0 10) ∧ (h13 0 11) = (h 0 11) ∧ (h13 0 12) = (h 0 12) ∧ (h13 0 13) = (h 0 13) ∧ (h13 3 1) = (h 3 1) ∧ (h13 36 8) = (h 36 8) ∧ (h13 46 3) = (h 46 3) ∧ (h13 46 4) = (h 46 4) ∧ (h13 49 4) = (h 49 4) ∧ (h13 49 5) = (h 49 5) ∧ (h13 64 0) = (h 64 0) ∧ (h13 76 0) = (h 76 0); omega)⟩
    · skip
      refine ov_blk (ls2 := [(0, ov_r 3), (1, ov_r 82), (2, ov_i v2), (3, ov_i (h 82 1))]) (st2 := [ov_r 3]) (pc2 := 34) b_90_33_1 rfl rfl ?_
      refine ov_getf (v := ov_r 58) d_90_34 fl_Reader_15 (zb_3 I) (zs_3 I) (congrArg ov_r k0) ?_
      refine ov_blk (ls2 := [(0, ov_r 3), (1, ov_r 82), (2, ov_i v2), (3, ov_i (h 82 1))]) (st2 := [ov_i v2, ov_i (h 82 1), ov_r 58]) (pc2 := 39) b_90_37_2 rfl rfl ?_
      refine ov_cV (as := [ov_i (h 82 1), ov_i v2]) (st := []) (d2 := d - 1) d_90_39 lk_Reader_69 rfl (Nat.le_of_ble_eq_true rfl) (c := 9) (zb_58 I) (zs_58 I) ⟨by decide, rfl⟩ (by omega) (c_Town_isBarred_58 (d - 1) (by omega) U I (h 82 1) v2 (by omega) (by omega) (by omega)) ?_
      rintro _ _ _ ⟨v18, rfl, rfl, rfl, f17⟩
      show ov_R u d ov_m90 42 [(0, ov_r 3), (1, ov_r 82), (2, ov_i v2), (3, ov_i (h 82 1))] [ov_i v18] z h (P_Reader_readStep_3_82_k3_1_58 F z h)
      have f19 : (v18 = 0 ∨ v18 = 1) := f17
      clear f17
      refine ov_ifeq (tgt := 51) d_90_42 (by decide) (by omega) (fun c20 => ?_) (fun c20 => ?_)
      · skip
        refine ov_blk (ls2 := [(0, ov_r 3), (1, ov_r 82), (2, ov_i v2), (3, ov_i (h 82 1))]) (st2 := [ov_r 82]) (pc2 := 52) b_90_51_1 rfl rfl ?_
        refine ov_getf (v := ov_i (h 82 0)) d_90_52 fl_Reader_72 (zb_82 I) (zs_82 I) rfl ?_
        have g21 := rg_82_0 I
        refine ov_blk (ls2 := [(0, ov_r 3), (1, ov_r 82), (2, ov_i v2), (3, ov_i (h 82 1))]) (st2 := [ov_i 13, ov_i (h 82 0)]) (pc2 := 57) b_90_55_1 rfl rfl ?_
        refine ov_iclt (tgt := 66) d_90_57 (by decide) (by omega) (by omega) (fun c22 => ?_) (fun c22 => ?_)
        · skip
          refine ov_blk (ls2 := [(0, ov_r 3), (1, ov_r 82), (2, ov_i v2), (3, ov_i (h 82 1))]) (st2 := [ov_r 3]) (pc2 := 67) b_90_66_1 rfl rfl ?_
          refine ov_getf (v := ov_r 1) d_90_67 fl_Reader_9 (zb_3 I) (zs_3 I) (congrArg ov_r (rg_3_0 I)) ?_
          refine ov_cV (as := []) (st := []) (d2 := d - 1) d_90_70 lk_Reader_75 rfl (Nat.le_of_ble_eq_true rfl) (c := 8) (zb_1 I) (zs_1 I) ⟨by decide, rfl⟩ (by omega) (c_Tape_advance_1 (d - 1) (by omega) U I (ov_kws hw (by decide +kernel))) ?_
          rintro _ z24 h25 ⟨rfl, I26, f23⟩
          show ov_R u d ov_m90 73 [(0, ov_r 3), (1, ov_r 82), (2, ov_i v2), (3, ov_i (h 82 1))] [] z24 h25 (P_Reader_readStep_3_82_k3_1_58 F z h)
          have f27 : (h25 3 3) = (h 3 3) ∧ (h25 36 7) = (h 36 7) ∧ (h25 1 1) = (h 1 1) ∧ (h25 90 2) = (h 90 2) ∧ (h25 0 10) = (h 0 10) ∧ (h25 0 11) = (h 0 11) ∧ (h25 0 12) = (h 0 12) ∧ (h25 0 13) = (h 0 13) ∧ (h25 3 1) = (h 3 1) ∧ (h25 36 8) = (h 36 8) ∧ (h25 46 3) = (h 46 3) ∧ (h25 46 4) = (h 46 4) ∧ (h25 49 4) = (h 49 4) ∧ (h25 49 5) = (h 49 5) ∧ (h25 64 0) = (h 64 0) ∧ (h25 76 0) = (h 76 0) := f23
          clear f23
          have e28 : h25 3 1 = 58 := by omega
          refine ov_blk (ls2 := [(0, ov_r 3), (1, ov_r 82), (2, ov_i v2), (3, ov_i (h 82 1))]) (st2 := [ov_i 9999, ov_i 0, ov_r 3]) (pc2 := 78) b_90_73_3 rfl rfl ?_
          refine ov_cV (as := [ov_i 0, ov_i 9999]) (st := []) (d2 := d - 1) d_90_78 lk_Reader_78 rfl (Nat.le_of_ble_eq_true rfl) (c := 6) (zb_3 I26) (zs_3 I26) ⟨by decide, rfl⟩ (by omega) (c_Reader_takeNumber_3_k3_1_58 (d - 1) (by omega) U I26 (ov_kws hw (by decide +kernel)) 0 9999 e28 (by omega) (by omega)) ?_
          rintro _ z31 h32 ⟨v30, rfl, I33, f29⟩
          show ov_R u d ov_m90 81 [(0, ov_r 3), (1, ov_r 82), (2, ov_i v2), (3, ov_i (h 82 1))] [ov_i v30] z31 h32 (P_Reader_readStep_3_82_k3_1_58 F z h)
          have f34 : (v30 = 0 ∧ 1 ≤ (h32 3 2) ∨ v30 = 1 ∧ (0 : Int) ≤ (h32 3 3) ∧ (h32 3 3) ≤ (9999 : Int)) ∧ (h32 36 7) = (h25 36 7) ∧ (h32 1 1) = (h25 1 1) ∧ (h32 90 2) = (h25 90 2) ∧ (h32 0 10) = (h25 0 10) ∧ (h32 0 11) = (h25 0 11) ∧ (h32 0 12) = (h25 0 12) ∧ (h32 0 13) = (h25 0 13) ∧ (h32 3 1) = (h25 3 1) ∧ (h32 36 8) = (h25 36 8) ∧ (h32 46 3) = (h25 46 3) ∧ (h32 46 4) = (h25 46 4) ∧ (h32 49 4) = (h25 49 4) ∧ (h32 49 5) = (h25 49 5) ∧ (h32 64 0) = (h25 64 0) ∧ (h32 76 0) = (h25 76 0) := f29
          clear f29
          have e35 : h32 3 1 = 58 := by omega
          refine ov_ifne (tgt := 86) d_90_81 (by decide) (by omega) (fun c36 => ?_) (fun c36 => ?_)
          · skip
            refine ov_blk (ls2 := [(0, ov_r 3), (1, ov_r 82), (2, ov_i v2), (3, ov_i (h 82 1))]) (st2 := [ov_r 3, ov_i v2, ov_i (h 82 1), ov_r 82]) (pc2 := 90) b_90_86_4 rfl rfl ?_
            refine ov_getf (v := ov_i (h32 3 3)) d_90_90 fl_Reader_81 (zb_3 I33) (zs_3 I33) rfl ?_
            have g37 := rg_3_3 I33
            refine ov_blk (ls2 := [(0, ov_r 3), (1, ov_r 82), (2, ov_i v2), (3, ov_i (h 82 1))]) (st2 := [ov_r 3, ov_i (h32 3 3), ov_i v2, ov_i (h 82 1), ov_r 82]) (pc2 := 94) b_90_93_1 rfl rfl ?_
            refine ov_getf (v := ov_r 58) d_90_94 fl_Reader_15 (zb_3 I33) (zs_3 I33) (congrArg ov_r e35) ?_
            refine ov_blk (ls2 := [(0, ov_r 3), (1, ov_r 82), (2, ov_i v2), (3, ov_i (h 82 1))]) (st2 := [ov_i v2, ov_i (h 82 1), ov_r 58, ov_i (h32 3 3), ov_i v2, ov_i (h 82 1), ov_r 82]) (pc2 := 99) b_90_97_2 rfl rfl ?_
            refine ov_cV (as := [ov_i (h 82 1), ov_i v2]) (st := [ov_i (h32 3 3), ov_i v2, ov_i (h 82 1), ov_r 82]) (d2 := d - 1) d_90_99 lk_Reader_84 rfl (Nat.le_of_ble_eq_true rfl) (c := 9) (zb_58 I33) (zs_58 I33) ⟨by decide, rfl⟩ (by omega) (c_Town_after_58 (d - 1) (by omega) U I33 (h 82 1) v2 (by omega) (by omega) (by omega)) ?_
            rintro _ _ _ ⟨v39, rfl, rfl, rfl, f38⟩
            show ov_R u d ov_m90 102 [(0, ov_r 3), (1, ov_r 82), (2, ov_i v2), (3, ov_i (h 82 1))] [ov_i v39, ov_i (h32 3 3), ov_i v2, ov_i (h 82 1), ov_r 82] z31 h32 (P_Reader_readStep_3_82_k3_1_58 F z h)
            have f40 : (v2 = 0 → v39 = (h 82 1) + 1) ∧ (¬ v2 = 0 → v39 = (h 82 1) + 6) := f38
            clear f38
            refine ov_cV (as := [ov_i (h 82 1), ov_i v2, ov_i (h32 3 3), ov_i v39]) (st := []) (d2 := d - 1) d_90_102 lk_Reader_88 rfl (Nat.le_of_ble_eq_true rfl) (c := 10) (zb_82 I33) (zs_82 I33) ⟨by decide, rfl⟩ (by omega) (c_Walk_add_82 (d - 1) (by omega) U I33 (ov_kws hw (by decide +kernel)) (h 82 1) v2 (h32 3 3) v39 (by omega) (by omega) (by omega) (by omega) (by omega) (by omega) (by omega)) ?_
            rintro _ z42 h43 ⟨rfl, I44, f41⟩
            show ov_R u d ov_m90 105 [(0, ov_r 3), (1, ov_r 82), (2, ov_i v2), (3, ov_i (h 82 1))] [] z42 h43 (P_Reader_readStep_3_82_k3_1_58 F z h)
            have f45 : (h43 36 7) = (h32 36 7) ∧ (h43 1 1) = (h32 1 1) ∧ (h43 90 2) = (h32 90 2) ∧ (h43 0 10) = (h32 0 10) ∧ (h43 0 11) = (h32 0 11) ∧ (h43 0 12) = (h32 0 12) ∧ (h43 0 13) = (h32 0 13) ∧ (h43 3 1) = (h32 3 1) ∧ (h43 36 8) = (h32 36 8) ∧ (h43 46 3) = (h32 46 3) ∧ (h43 46 4) = (h32 46 4) ∧ (h43 49 4) = (h32 49 4) ∧ (h43 49 5) = (h32 49 5) ∧ (h43 64 0) = (h32 64 0) ∧ (h43 76 0) = (h32 76 0) := f41
            clear f41
            have e46 : h43 3 1 = 58 := by omega
            refine ov_blk (ls2 := [(0, ov_r 3), (1, ov_r 82), (2, ov_i v2), (3, ov_i (h 82 1))]) (st2 := [ov_i 59, ov_r 3]) (pc2 := 108) b_90_105_2 rfl rfl ?_
            refine ov_cV (as := [ov_i 59]) (st := []) (d2 := d - 1) d_90_108 lk_Reader_92 rfl (Nat.le_of_ble_eq_true rfl) (c := 6) (zb_3 I44) (zs_3 I44) ⟨by decide, rfl⟩ (by omega) (c_Reader_takeSign_3_k3_1_58 (d - 1) (by omega) U I44 (ov_kws hw (by decide +kernel)) 59 e46 (by omega)) ?_
            rintro _ z49 h50 ⟨v48, rfl, I51, f47⟩
            show ov_R u d ov_m90 111 [(0, ov_r 3), (1, ov_r 82), (2, ov_i v2), (3, ov_i (h 82 1))] [ov_i v48] z49 h50 (P_Reader_readStep_3_82_k3_1_58 F z h)
            have f52 : (v48 = 0 ∧ 1 ≤ (h50 3 2) ∨ v48 = 1) ∧ (h50 36 7) = (h43 36 7) ∧ (h50 1 1) = (h43 1 1) ∧ (h50 90 2) = (h43 90 2) ∧ (h50 0 10) = (h43 0 10) ∧ (h50 0 11) = (h43 0 11) ∧ (h50 0 12) = (h43 0 12) ∧ (h50 0 13) = (h43 0 13) ∧ (h50 3 1) = (h43 3 1) ∧ (h50 36 8) = (h43 36 8) ∧ (h50 46 3) = (h43 46 3) ∧ (h50 46 4) = (h43 46 4) ∧ (h50 49 4) = (h43 49 4) ∧ (h50 49 5) = (h43 49 5) ∧ (h50 64 0) = (h43 64 0) ∧ (h50 76 0) = (h43 76 0) := f47
            clear f47
            have e53 : h50 3 1 = 58 := by omega
            exact ov_retz (st := []) d_90_111 rfl (by omega) ⟨_, rfl, I51, (by show (v48 = 0 ∧ 1 ≤ (h50 3 2) ∨ v48 = 1) ∧ (h50 36 7) = (h 36 7) ∧ (h50 1 1) = (h 1 1) ∧ (h50 90 2) = (h 90 2) ∧ (h50 0 10) = (h 0 10) ∧ (h50 0 11) = (h 0 11) ∧ (h50 0 12) = (h 0 12) ∧ (h50 0 13) = (h 0 13) ∧ (h50 3 1) = (h 3 1) ∧ (h50 36 8) = (h 36 8) ∧ (h50 46 3) = (h 46 3) ∧ (h50 46 4) = (h 46 4) ∧ (h50 49 4) = (h 49 4) ∧ (h50 49 5) = (h 49 5) ∧ (h50 64 0) = (h 64 0) ∧ (h50 76 0) = (h 76 0); omega)⟩
          · skip
            refine ov_blk (ls2 := [(0, ov_r 3), (1, ov_r 82), (2, ov_i v2), (3, ov_i (h 82 1))]) (st2 := [ov_i 0]) (pc2 := 85) b_90_84_1 rfl rfl ?_
            exact ov_retz (st := []) d_90_85 rfl (by omega) ⟨_, rfl, I33, (by show (0 = 0 ∧ 1 ≤ (h32 3 2) ∨ 0 = 1) ∧ (h32 36 7) = (h 36 7) ∧ (h32 1 1) = (h 1 1) ∧ (h32 90 2) = (h 90 2) ∧ (h32 0 10) = (h 0 10) ∧ (h32 0 11) = (h 0 11) ∧ (h32 0 12) = (h 0 12) ∧ (h32 0 13) = (h 0 13) ∧ (h32 3 1) = (h 3 1) ∧ (h32 36 8) = (h 36 8) ∧ (h32 46 3) = (h 46 3) ∧ (h32 46 4) = (h 46 4) ∧ (h32 49 4) = (h 49 4) ∧ (h32 49 5) = (h 49 5) ∧ (h32 64 0) = (h 64 0) ∧ (h32 76 0) = (h 76 0); omega)⟩
        · skip
          refine ov_blk (ls2 := [(0, ov_r 3), (1, ov_r 82), (2, ov_i v2), (3, ov_i (h 82 1))]) (st2 := [ov_i 5, ov_r 3]) (pc2 := 62) b_90_60_2 rfl rfl ?_
          refine ov_cV (as := [ov_i 5]) (st := []) (d2 := d - 1) d_90_62 lk_Reader_58 rfl (Nat.le_of_ble_eq_true rfl) (c := 6) (zb_3 I) (zs_3 I) ⟨by decide, rfl⟩ (by omega) (c_Reader_fail_3_k3_1_58 (d - 1) (by omega) U I (ov_kws hw (by decide +kernel)) 5 k0 (by omega) (by omega)) ?_
          rintro _ z56 h57 ⟨v55, rfl, I58, f54⟩
          show ov_R u d ov_m90 65 [(0, ov_r 3), (1, ov_r 82), (2, ov_i v2), (3, ov_i (h 82 1))] [ov_i v55] z56 h57 (P_Reader_readStep_3_82_k3_1_58 F z h)
          have f59 : v55 = 0 ∧ 1 ≤ (h57 3 2) ∧ (h57 36 7) = (h 36 7) ∧ (h57 1 1) = (h 1 1) ∧ (h57 90 2) = (h 90 2) ∧ (h57 0 10) = (h 0 10) ∧ (h57 0 11) = (h 0 11) ∧ (h57 0 12) = (h 0 12) ∧ (h57 0 13) = (h 0 13) ∧ (h57 3 1) = (h 3 1) ∧ (h57 36 8) = (h 36 8) ∧ (h57 46 3) = (h 46 3) ∧ (h57 46 4) = (h 46 4) ∧ (h57 49 4) = (h 49 4) ∧ (h57 49 5) = (h 49 5) ∧ (h57 64 0) = (h 64 0) ∧ (h57 76 0) = (h 76 0) := f54
          clear f54
          have e60 : h57 3 1 = 58 := by omega
          exact ov_retz (st := []) d_90_65 rfl (by omega) ⟨_, rfl, I58, (by show (v55 = 0 ∧ 1 ≤ (h57 3 2) ∨ v55 = 1) ∧ (h57 36 7) = (h 36 7) ∧ (h57 1 1) = (h 1 1) ∧ (h57 90 2) = (h 90 2) ∧ (h57 0 10) = (h 0 10) ∧ (h57 0 11) = (h 0 11) ∧ (h57 0 12) = (h 0 12) ∧ (h57 0 13) = (h 0 13) ∧ (h57 3 1) = (h 3 1) ∧ (h57 36 8) = (h 36 8) ∧ (h57 46 3) = (h 46 3) ∧ (h57 46 4) = (h 46 4) ∧ (h57 49 4) = (h 49 4) ∧ (h57 49 5) = (h 49 5) ∧ (h57 64 0) = (h 64 0) ∧ (h57 76 0) = (h 76 0); omega)⟩
      · skip
        refine ov_blk (ls2 := [(0, ov_r 3), (1, ov_r 82), (2, ov_i v2), (3, ov_i (h 82 1))]) (st2 := [ov_i 2, ov_r 3]) (pc2 := 47) b_90_45_2 rfl rfl ?_
        refine ov_cV (as := [ov_i 2]) (st := []) (d2 := d - 1) d_90_47 lk_Reader_58 rfl (Nat.le_of_ble_eq_true rfl) (c := 6) (zb_3 I) (zs_3 I) ⟨by decide, rfl⟩ (by omega) (c_Reader_fail_3_k3_1_58 (d - 1) (by omega) U I (ov_kws hw (by decide +kernel)) 2 k0 (by omega) (by omega)) ?_
        rintro _ z63 h64 ⟨v62, rfl, I65, f61⟩
        show ov_R u d ov_m90 50 [(0, ov_r 3), (1, ov_r 82), (2, ov_i v2), (3, ov_i (h 82 1))] [ov_i v62] z63 h64 (P_Reader_readStep_3_82_k3_1_58 F z h)
        have f66 : v62 = 0 ∧ 1 ≤ (h64 3 2) ∧ (h64 36 7) = (h 36 7) ∧ (h64 1 1) = (h 1 1) ∧ (h64 90 2) = (h 90 2) ∧ (h64 0 10) = (h 0 10) ∧ (h64 0 11) = (h 0 11) ∧ (h64 0 12) = (h 0 12) ∧ (h64 0 13) = (h 0 13) ∧ (h64 3 1) = (h 3 1) ∧ (h64 36 8) = (h 36 8) ∧ (h64 46 3) = (h 46 3) ∧ (h64 46 4) = (h 46 4) ∧ (h64 49 4) = (h 49 4) ∧ (h64 49 5) = (h 49 5) ∧ (h64 64 0) = (h 64 0) ∧ (h64 76 0) = (h 76 0) := f61
        clear f61
        have e67 : h64 3 1 = 58 := by omega
        exact ov_retz (st := []) d_90_50 rfl (by omega) ⟨_, rfl, I65, (by show (v62 = 0 ∧ 1 ≤ (h64 3 2) ∨ v62 = 1) ∧ (h64 36 7) = (h 36 7) ∧ (h64 1 1) = (h 1 1) ∧ (h64 90 2) = (h 90 2) ∧ (h64 0 10) = (h 0 10) ∧ (h64 0 11) = (h 0 11) ∧ (h64 0 12) = (h 0 12) ∧ (h64 0 13) = (h 0 13) ∧ (h64 3 1) = (h 3 1) ∧ (h64 36 8) = (h 36 8) ∧ (h64 46 3) = (h 46 3) ∧ (h64 46 4) = (h 46 4) ∧ (h64 49 4) = (h 49 4) ∧ (h64 49 5) = (h 49 5) ∧ (h64 64 0) = (h 64 0) ∧ (h64 76 0) = (h 76 0); omega)⟩
  · skip
    refine ov_blk (ls2 := [(0, ov_r 3), (1, ov_r 82), (2, ov_i v2)]) (st2 := [ov_i 1, ov_r 3]) (pc2 := 12) b_90_10_2 rfl rfl ?_
    refine ov_cV (as := [ov_i 1]) (st := []) (d2 := d - 1) d_90_12 lk_Reader_58 rfl (Nat.le_of_ble_eq_true rfl) (c := 6) (zb_3 I) (zs_3 I) ⟨by decide, rfl⟩ (by omega) (c_Reader_fail_3_k3_1_58 (d - 1) (by omega) U I (ov_kws hw (by decide +kernel)) 1 k0 (by omega) (by omega)) ?_
    rintro _ z70 h71 ⟨v69, rfl, I72, f68⟩
    show ov_R u d ov_m90 15 [(0, ov_r 3), (1, ov_r 82), (2, ov_i v2)] [ov_i v69] z70 h71 (P_Reader_readStep_3_82_k3_1_58 F z h)
    have f73 : v69 = 0 ∧ 1 ≤ (h71 3 2) ∧ (h71 36 7) = (h 36 7) ∧ (h71 1 1) = (h 1 1) ∧ (h71 90 2) = (h 90 2) ∧ (h71 0 10) = (h 0 10) ∧ (h71 0 11) = (h 0 11) ∧ (h71 0 12) = (h 0 12) ∧ (h71 0 13) = (h 0 13) ∧ (h71 3 1) = (h 3 1) ∧ (h71 36 8) = (h 36 8) ∧ (h71 46 3) = (h 46 3) ∧ (h71 46 4) = (h 46 4) ∧ (h71 49 4) = (h 49 4) ∧ (h71 49 5) = (h 49 5) ∧ (h71 64 0) = (h 64 0) ∧ (h71 76 0) = (h 76 0) := f68
    clear f68
    have e74 : h71 3 1 = 58 := by omega
    exact ov_retz (st := []) d_90_15 rfl (by omega) ⟨_, rfl, I72, (by show (v69 = 0 ∧ 1 ≤ (h71 3 2) ∨ v69 = 1) ∧ (h71 36 7) = (h 36 7) ∧ (h71 1 1) = (h 1 1) ∧ (h71 90 2) = (h 90 2) ∧ (h71 0 10) = (h 0 10) ∧ (h71 0 11) = (h 0 11) ∧ (h71 0 12) = (h 0 12) ∧ (h71 0 13) = (h 0 13) ∧ (h71 3 1) = (h 3 1) ∧ (h71 36 8) = (h 36 8) ∧ (h71 46 3) = (h 46 3) ∧ (h71 46 4) = (h 46 4) ∧ (h71 49 4) = (h 49 4) ∧ (h71 49 5) = (h 49 5) ∧ (h71 64 0) = (h 64 0) ∧ (h71 76 0) = (h 76 0); omega)⟩
abbrev P_Reader_readWalk_3_58_82 (F : ov_H) (z : ov_Z) (h : ov_H)  : Option ov_V → ov_Z → ov_H → Prop := fun r0 z' h' => ∃ r : Int, r0 = some (ov_i r) ∧ ov_I F z' h' ∧ ((h' 1 1) = 0 ∧ (h' 36 7) = (h 36 7) ∧ (h' 90 2) = (h 90 2) ∧ (h' 0 10) = (h 0 10) ∧ (h' 0 11) = (h 0 11) ∧ (h' 0 12) = (h 0 12) ∧ (h' 0 13) = (h 0 13) ∧ (h' 36 8) = (h 36 8) ∧ (h' 46 3) = (h 46 3) ∧ (h' 46 4) = (h 46 4) ∧ (h' 49 4) = (h 49 4) ∧ (h' 49 5) = (h 49 5) ∧ (h' 64 0) = (h 64 0) ∧ (h' 76 0) = (h 76 0))
set_option maxHeartbeats 4000000 in
theorem c_Reader_readWalk_3_58_82 {u : ov_U} {F : ov_H} {z : ov_Z} {h : ov_H} (d : Nat) (hd : 7 ≤ d) (U : ov_cap u) (I : ov_I F z h) (hw : ov_kw 72535549176877750482370570 F) : ov_T u d ov_m89 [ov_r 3, ov_r 58, ov_r 82] z h (P_Reader_readWalk_3_58_82 F z h) := by
  refine ov_en rfl (Nat.le_of_ble_eq_true rfl) ?_
  show ov_R u d ov_m89 0 [(0, ov_r 3), (1, ov_r 58), (2, ov_r 82)] [] z h (P_Reader_readWalk_3_58_82 F z h)
  refine ov_blk (ls2 := [(0, ov_r 3), (1, ov_r 58), (2, ov_r 82)]) (st2 := [ov_r 58, ov_r 3]) (pc2 := 2) b_89_0_2 rfl rfl ?_
  refine ov_putf (x := 58) d_89_2 fl_Reader_15 (zb_3 I) (zs_3 I) rfl nk_2 rfl ?_
  have I1 := up_3_1 (x := 58) I (by omega) (hw 3 (by decide +kernel))
  refine ov_blk (ls2 := [(0, ov_r 3), (1, ov_r 58), (2, ov_r 82)]) (st2 := [ov_r 82]) (pc2 := 6) b_89_5_1 rfl rfl ?_
  refine ov_cV (as := []) (st := []) (d2 := d - 1) d_89_6 lk_Reader_47 rfl (Nat.le_of_ble_eq_true rfl) (c := 10) (zb_82 I1) (zs_82 I1) ⟨by decide, rfl⟩ (by omega) (c_Walk_clear_82 (d - 1) (by omega) U I1 (ov_kws hw (by decide +kernel))) ?_
  rintro _ z3 h4 ⟨rfl, I5, f2⟩
  show ov_R u d ov_m89 9 [(0, ov_r 3), (1, ov_r 58), (2, ov_r 82)] [] z3 h4 (P_Reader_readWalk_3_58_82 F z h)
  have f6 : (h4 36 7) = (h 36 7) ∧ (h4 1 1) = (h 1 1) ∧ (h4 90 2) = (h 90 2) ∧ (h4 0 10) = (h 0 10) ∧ (h4 0 11) = (h 0 11) ∧ (h4 0 12) = (h 0 12) ∧ (h4 0 13) = (h 0 13) ∧ (h4 3 1) = 58 ∧ (h4 36 8) = (h 36 8) ∧ (h4 46 3) = (h 46 3) ∧ (h4 46 4) = (h 46 4) ∧ (h4 49 4) = (h 49 4) ∧ (h4 49 5) = (h 49 5) ∧ (h4 64 0) = (h 64 0) ∧ (h4 76 0) = (h 76 0) := f2
  clear f2
  have e7 : h4 3 1 = 58 := by omega
  refine ov_blk (ls2 := [(0, ov_r 3), (1, ov_r 58), (2, ov_r 82)]) (st2 := [ov_i 0, ov_r 3]) (pc2 := 11) b_89_9_2 rfl rfl ?_
  refine ov_putf (x := 0) d_89_11 fl_Reader_24 (zb_3 I5) (zs_3 I5) rfl nk_0 rfl ?_
  have I8 := up_3_2 (x := 0) I5 (by omega) (hw 3 (by decide +kernel))
  refine ov_blk (ls2 := [(0, ov_r 3), (1, ov_r 58), (2, ov_r 82)]) (st2 := [ov_r 3]) (pc2 := 15) b_89_14_1 rfl rfl ?_
  refine ov_getf (v := ov_r 1) d_89_15 fl_Reader_9 (zb_3 I8) (zs_3 I8) (congrArg ov_r (rg_3_0 I8)) ?_
  refine ov_cV (as := []) (st := []) (d2 := d - 1) d_89_18 lk_Reader_28 rfl (Nat.le_of_ble_eq_true rfl) (c := 8) (zb_1 I8) (zs_1 I8) ⟨by decide, rfl⟩ (by omega) (c_Tape_begin_1 (d - 1) (by omega) U I8 (ov_kws hw (by decide +kernel))) ?_
  rintro _ z10 h11 ⟨rfl, I12, f9⟩
  show ov_R u d ov_m89 21 [(0, ov_r 3), (1, ov_r 58), (2, ov_r 82)] [] z10 h11 (P_Reader_readWalk_3_58_82 F z h)
  have f13 : (h11 3 3) = (h4 3 3) ∧ (h11 36 7) = (h4 36 7) ∧ (h11 1 1) = (h4 1 1) ∧ (h11 90 2) = (h4 90 2) ∧ (h11 0 10) = (h4 0 10) ∧ (h11 0 11) = (h4 0 11) ∧ (h11 0 12) = (h4 0 12) ∧ (h11 0 13) = (h4 0 13) ∧ (h11 3 1) = (h4 3 1) ∧ (h11 36 8) = (h4 36 8) ∧ (h11 46 3) = (h4 46 3) ∧ (h11 46 4) = (h4 46 4) ∧ (h11 49 4) = (h4 49 4) ∧ (h11 49 5) = (h4 49 5) ∧ (h11 64 0) = (h4 64 0) ∧ (h11 76 0) = (h4 76 0) := f9
  clear f9
  have e14 : h11 3 1 = 58 := by omega
  refine ov_blk (ls2 := [(0, ov_r 3), (1, ov_r 58), (2, ov_r 82), (3, ov_i 1), (4, ov_i 0)]) (st2 := []) (pc2 := 26) b_89_21_4 rfl rfl ?_
  have L18 : ∀ (n15 : Nat) (x3 : Int) (x4 : Int) (z19 : ov_Z) (h20 : ov_H) (I21 : ov_I F z19 h20) (q17 : (x3 = 0 ∨ x3 = 1) ∧ 0 ≤ x4 ∧ x4 ≤ 1000 ∧ (h20 36 7) = (h 36 7) ∧ (h20 90 2) = (h 90 2) ∧ (h20 0 10) = (h 0 10) ∧ (h20 0 11) = (h 0 11) ∧ (h20 0 12) = (h 0 12) ∧ (h20 0 13) = (h 0 13) ∧ (h20 36 8) = (h 36 8) ∧ (h20 46 3) = (h 46 3) ∧ (h20 46 4) = (h 46 4) ∧ (h20 49 4) = (h 49 4) ∧ (h20 49 5) = (h 49 5) ∧ (h20 64 0) = (h 64 0) ∧ (h20 76 0) = (h 76 0) ∧ h20 3 1 = 58), 1000 - x4 < (n15 : Int) → ov_R u d ov_m89 26 [(0, ov_r 3), (1, ov_r 58), (2, ov_r 82), (3, ov_i x3), (4, ov_i x4)] [] z19 h20 (P_Reader_readWalk_3_58_82 F z h) := by
    intro n15
    induction n15 with
    | zero =>
      intro x3 x4 z19 h20 I21 q17 hn22
      exact absurd hn22 (by omega)
    | succ n15 ih16 =>
      intro x3 x4 z19 h20 I21 q17 hn22
      have e23 : h20 3 1 = 58 := by omega
      refine ov_blk (ls2 := [(0, ov_r 3), (1, ov_r 58), (2, ov_r 82), (3, ov_i x3), (4, ov_i x4)]) (st2 := [ov_i 1000, ov_i x4]) (pc2 := 31) b_89_26_2 rfl rfl ?_
      refine ov_icge (tgt := 60) d_89_31 (by decide) (by omega) (by omega) (fun c24 => ?_) (fun c24 => ?_)
      · skip
        refine ov_blk (ls2 := [(0, ov_r 3), (1, ov_r 58), (2, ov_r 82), (3, ov_i x3), (4, ov_i x4)]) (st2 := [ov_r 3]) (pc2 := 61) b_89_60_1 rfl rfl ?_
        refine ov_getf (v := ov_r 1) d_89_61 fl_Reader_9 (zb_3 I21) (zs_3 I21) (congrArg ov_r (rg_3_0 I21)) ?_
        refine ov_cV (as := []) (st := []) (d2 := d - 1) d_89_64 lk_Reader_46 rfl (Nat.le_of_ble_eq_true rfl) (c := 8) (zb_1 I21) (zs_1 I21) ⟨by decide, rfl⟩ (by omega) (c_Tape_clear_1 (d - 1) (by omega) U I21 (ov_kws hw (by decide +kernel))) ?_
        rintro _ z26 h27 ⟨rfl, I28, f25⟩
        show ov_R u d ov_m89 67 [(0, ov_r 3), (1, ov_r 58), (2, ov_r 82), (3, ov_i x3), (4, ov_i x4)] [] z26 h27 (P_Reader_readWalk_3_58_82 F z h)
        have f29 : (h27 1 1) = 0 ∧ (h27 3 2) = (h20 3 2) ∧ (h27 36 7) = (h20 36 7) ∧ (h27 90 2) = (h20 90 2) ∧ (h27 0 10) = (h20 0 10) ∧ (h27 0 11) = (h20 0 11) ∧ (h27 0 12) = (h20 0 12) ∧ (h27 0 13) = (h20 0 13) ∧ (h27 3 1) = (h20 3 1) ∧ (h27 36 8) = (h20 36 8) ∧ (h27 46 3) = (h20 46 3) ∧ (h27 46 4) = (h20 46 4) ∧ (h27 49 4) = (h20 49 4) ∧ (h27 49 5) = (h20 49 5) ∧ (h27 64 0) = (h20 64 0) ∧ (h27 76 0) = (h20 76 0) := f25
        clear f25
        have e30 : h27 3 1 = 58 := by omega
        refine ov_blk (ls2 := [(0, ov_r 3), (1, ov_r 58), (2, ov_r 82), (3, ov_i x3), (4, ov_i x4)]) (st2 := [ov_r 3]) (pc2 := 68) b_89_67_1 rfl rfl ?_
        refine ov_getf (v := ov_i (h27 3 2)) d_89_68 fl_Reader_24 (zb_3 I28) (zs_3 I28) rfl ?_
        have g31 := rg_3_2 I28
        exact ov_reti (st := []) d_89_71 rfl ⟨_, rfl, I28, (by show (h27 1 1) = 0 ∧ (h27 36 7) = (h 36 7) ∧ (h27 90 2) = (h 90 2) ∧ (h27 0 10) = (h 0 10) ∧ (h27 0 11) = (h 0 11) ∧ (h27 0 12) = (h 0 12) ∧ (h27 0 13) = (h 0 13) ∧ (h27 36 8) = (h 36 8) ∧ (h27 46 3) = (h 46 3) ∧ (h27 46 4) = (h 46 4) ∧ (h27 49 4) = (h 49 4) ∧ (h27 49 5) = (h 49 5) ∧ (h27 64 0) = (h 64 0) ∧ (h27 76 0) = (h 76 0); omega)⟩
      · skip
        refine ov_blk (ls2 := [(0, ov_r 3), (1, ov_r 58), (2, ov_r 82), (3, ov_i x3), (4, ov_i x4)]) (st2 := [ov_i x3]) (pc2 := 35) b_89_34_1 rfl rfl ?_
        refine ov_ifeq (tgt := 60) d_89_35 (by decide) (by omega) (fun c32 => ?_) (fun c32 => ?_)
        · skip
          refine ov_blk (ls2 := [(0, ov_r 3), (1, ov_r 58), (2, ov_r 82), (3, ov_i x3), (4, ov_i x4)]) (st2 := [ov_r 3]) (pc2 := 61) b_89_60_1 rfl rfl ?_
          refine ov_getf (v := ov_r 1) d_89_61 fl_Reader_9 (zb_3 I21) (zs_3 I21) (congrArg ov_r (rg_3_0 I21)) ?_
          refine ov_cV (as := []) (st := []) (d2 := d - 1) d_89_64 lk_Reader_46 rfl (Nat.le_of_ble_eq_true rfl) (c := 8) (zb_1 I21) (zs_1 I21) ⟨by decide, rfl⟩ (by omega) (c_Tape_clear_1 (d - 1) (by omega) U I21 (ov_kws hw (by decide +kernel))) ?_
          rintro _ z34 h35 ⟨rfl, I36, f33⟩
          show ov_R u d ov_m89 67 [(0, ov_r 3), (1, ov_r 58), (2, ov_r 82), (3, ov_i x3), (4, ov_i x4)] [] z34 h35 (P_Reader_readWalk_3_58_82 F z h)
          have f37 : (h35 1 1) = 0 ∧ (h35 3 2) = (h20 3 2) ∧ (h35 36 7) = (h20 36 7) ∧ (h35 90 2) = (h20 90 2) ∧ (h35 0 10) = (h20 0 10) ∧ (h35 0 11) = (h20 0 11) ∧ (h35 0 12) = (h20 0 12) ∧ (h35 0 13) = (h20 0 13) ∧ (h35 3 1) = (h20 3 1) ∧ (h35 36 8) = (h20 36 8) ∧ (h35 46 3) = (h20 46 3) ∧ (h35 46 4) = (h20 46 4) ∧ (h35 49 4) = (h20 49 4) ∧ (h35 49 5) = (h20 49 5) ∧ (h35 64 0) = (h20 64 0) ∧ (h35 76 0) = (h20 76 0) := f33
          clear f33
          have e38 : h35 3 1 = 58 := by omega
          refine ov_blk (ls2 := [(0, ov_r 3), (1, ov_r 58), (2, ov_r 82), (3, ov_i x3), (4, ov_i x4)]) (st2 := [ov_r 3]) (pc2 := 68) b_89_67_1 rfl rfl ?_
          refine ov_getf (v := ov_i (h35 3 2)) d_89_68 fl_Reader_24 (zb_3 I36) (zs_3 I36) rfl ?_
          have g39 := rg_3_2 I36
          exact ov_reti (st := []) d_89_71 rfl ⟨_, rfl, I36, (by show (h35 1 1) = 0 ∧ (h35 36 7) = (h 36 7) ∧ (h35 90 2) = (h 90 2) ∧ (h35 0 10) = (h 0 10) ∧ (h35 0 11) = (h 0 11) ∧ (h35 0 12) = (h 0 12) ∧ (h35 0 13) = (h 0 13) ∧ (h35 36 8) = (h 36 8) ∧ (h35 46 3) = (h 46 3) ∧ (h35 46 4) = (h 46 4) ∧ (h35 49 4) = (h 49 4) ∧ (h35 49 5) = (h 49 5) ∧ (h35 64 0) = (h 64 0) ∧ (h35 76 0) = (h 76 0); omega)⟩
        · skip
          refine ov_blk (ls2 := [(0, ov_r 3), (1, ov_r 58), (2, ov_r 82), (3, ov_i x3), (4, ov_i x4)]) (st2 := [ov_r 3]) (pc2 := 39) b_89_38_1 rfl rfl ?_
          refine ov_getf (v := ov_r 1) d_89_39 fl_Reader_9 (zb_3 I21) (zs_3 I21) (congrArg ov_r (rg_3_0 I21)) ?_
          refine ov_getf (v := ov_i (h20 1 2)) d_89_42 fl_Reader_37 (zb_1 I21) (zs_1 I21) rfl ?_
          have g40 := rg_1_2 I21
          refine ov_ifeq (tgt := 60) d_89_45 (by decide) (by omega) (fun c41 => ?_) (fun c41 => ?_)
          · skip
            refine ov_blk (ls2 := [(0, ov_r 3), (1, ov_r 58), (2, ov_r 82), (3, ov_i x3), (4, ov_i x4)]) (st2 := [ov_r 3]) (pc2 := 61) b_89_60_1 rfl rfl ?_
            refine ov_getf (v := ov_r 1) d_89_61 fl_Reader_9 (zb_3 I21) (zs_3 I21) (congrArg ov_r (rg_3_0 I21)) ?_
            refine ov_cV (as := []) (st := []) (d2 := d - 1) d_89_64 lk_Reader_46 rfl (Nat.le_of_ble_eq_true rfl) (c := 8) (zb_1 I21) (zs_1 I21) ⟨by decide, rfl⟩ (by omega) (c_Tape_clear_1 (d - 1) (by omega) U I21 (ov_kws hw (by decide +kernel))) ?_
            rintro _ z43 h44 ⟨rfl, I45, f42⟩
            show ov_R u d ov_m89 67 [(0, ov_r 3), (1, ov_r 58), (2, ov_r 82), (3, ov_i x3), (4, ov_i x4)] [] z43 h44 (P_Reader_readWalk_3_58_82 F z h)
            have f46 : (h44 1 1) = 0 ∧ (h44 3 2) = (h20 3 2) ∧ (h44 36 7) = (h20 36 7) ∧ (h44 90 2) = (h20 90 2) ∧ (h44 0 10) = (h20 0 10) ∧ (h44 0 11) = (h20 0 11) ∧ (h44 0 12) = (h20 0 12) ∧ (h44 0 13) = (h20 0 13) ∧ (h44 3 1) = (h20 3 1) ∧ (h44 36 8) = (h20 36 8) ∧ (h44 46 3) = (h20 46 3) ∧ (h44 46 4) = (h20 46 4) ∧ (h44 49 4) = (h20 49 4) ∧ (h44 49 5) = (h20 49 5) ∧ (h44 64 0) = (h20 64 0) ∧ (h44 76 0) = (h20 76 0) := f42
            clear f42
            have e47 : h44 3 1 = 58 := by omega
            refine ov_blk (ls2 := [(0, ov_r 3), (1, ov_r 58), (2, ov_r 82), (3, ov_i x3), (4, ov_i x4)]) (st2 := [ov_r 3]) (pc2 := 68) b_89_67_1 rfl rfl ?_
            refine ov_getf (v := ov_i (h44 3 2)) d_89_68 fl_Reader_24 (zb_3 I45) (zs_3 I45) rfl ?_
            have g48 := rg_3_2 I45
            exact ov_reti (st := []) d_89_71 rfl ⟨_, rfl, I45, (by show (h44 1 1) = 0 ∧ (h44 36 7) = (h 36 7) ∧ (h44 90 2) = (h 90 2) ∧ (h44 0 10) = (h 0 10) ∧ (h44 0 11) = (h 0 11) ∧ (h44 0 12) = (h 0 12) ∧ (h44 0 13) = (h 0 13) ∧ (h44 36 8) = (h 36 8) ∧ (h44 46 3) = (h 46 3) ∧ (h44 46 4) = (h 46 4) ∧ (h44 49 4) = (h 49 4) ∧ (h44 49 5) = (h 49 5) ∧ (h44 64 0) = (h 64 0) ∧ (h44 76 0) = (h 76 0); omega)⟩
          · skip
            refine ov_blk (ls2 := [(0, ov_r 3), (1, ov_r 58), (2, ov_r 82), (3, ov_i x3), (4, ov_i x4)]) (st2 := [ov_r 82, ov_r 3]) (pc2 := 50) b_89_48_2 rfl rfl ?_
            refine ov_cV (as := [ov_r 82]) (st := []) (d2 := d - 1) d_89_50 lk_Reader_50 rfl (Nat.le_of_ble_eq_true rfl) (c := 6) (zb_3 I21) (zs_3 I21) ⟨by decide, rfl⟩ (by omega) (c_Reader_readStep_3_82_k3_1_58 (d - 1) (by omega) U I21 (ov_kws hw (by decide +kernel)) e23) ?_
            rintro _ z51 h52 ⟨v50, rfl, I53, f49⟩
            show ov_R u d ov_m89 53 [(0, ov_r 3), (1, ov_r 58), (2, ov_r 82), (3, ov_i x3), (4, ov_i x4)] [ov_i v50] z51 h52 (P_Reader_readWalk_3_58_82 F z h)
            have f54 : (v50 = 0 ∧ 1 ≤ (h52 3 2) ∨ v50 = 1) ∧ (h52 36 7) = (h20 36 7) ∧ (h52 1 1) = (h20 1 1) ∧ (h52 90 2) = (h20 90 2) ∧ (h52 0 10) = (h20 0 10) ∧ (h52 0 11) = (h20 0 11) ∧ (h52 0 12) = (h20 0 12) ∧ (h52 0 13) = (h20 0 13) ∧ (h52 3 1) = (h20 3 1) ∧ (h52 36 8) = (h20 36 8) ∧ (h52 46 3) = (h20 46 3) ∧ (h52 46 4) = (h20 46 4) ∧ (h52 49 4) = (h20 49 4) ∧ (h52 49 5) = (h20 49 5) ∧ (h52 64 0) = (h20 64 0) ∧ (h52 76 0) = (h20 76 0) := f49
            clear f49
            have e55 : h52 3 1 = 58 := by omega
            refine ov_blk (ls2 := [(0, ov_r 3), (1, ov_r 58), (2, ov_r 82), (3, ov_i v50), (4, ov_i (x4 + 1))]) (st2 := []) (pc2 := 57) b_89_53_2 rfl rfl ?_
            refine ov_goto (tgt := 26) d_89_57 (by decide) ?_
            exact ih16 v50 (x4 + 1) _ _ I53 (by show (v50 = 0 ∨ v50 = 1) ∧ 0 ≤ (x4 + 1) ∧ (x4 + 1) ≤ 1000 ∧ (h52 36 7) = (h 36 7) ∧ (h52 90 2) = (h 90 2) ∧ (h52 0 10) = (h 0 10) ∧ (h52 0 11) = (h 0 11) ∧ (h52 0 12) = (h 0 12) ∧ (h52 0 13) = (h 0 13) ∧ (h52 36 8) = (h 36 8) ∧ (h52 46 3) = (h 46 3) ∧ (h52 46 4) = (h 46 4) ∧ (h52 49 4) = (h 49 4) ∧ (h52 49 5) = (h 49 5) ∧ (h52 64 0) = (h 64 0) ∧ (h52 76 0) = (h 76 0) ∧ (h52 3 1) = 58; omega) (by omega)
  exact L18 1001 1 0 _ _ I12 (by show (1 = 0 ∨ 1 = 1) ∧ 0 ≤ 0 ∧ 0 ≤ 1000 ∧ (h11 36 7) = (h 36 7) ∧ (h11 90 2) = (h 90 2) ∧ (h11 0 10) = (h 0 10) ∧ (h11 0 11) = (h 0 11) ∧ (h11 0 12) = (h 0 12) ∧ (h11 0 13) = (h 0 13) ∧ (h11 36 8) = (h 36 8) ∧ (h11 46 3) = (h 46 3) ∧ (h11 46 4) = (h 46 4) ∧ (h11 49 4) = (h 49 4) ∧ (h11 49 5) = (h 49 5) ∧ (h11 64 0) = (h 64 0) ∧ (h11 76 0) = (h 76 0) ∧ (h11 3 1) = 58; omega) (by omega)
abbrev P_Reader_readStep_3_86_k3_1_58 (F : ov_H) (z : ov_Z) (h : ov_H)  : Option ov_V → ov_Z → ov_H → Prop := fun r0 z' h' => ∃ r : Int, r0 = some (ov_i r) ∧ ov_I F z' h' ∧ ((r = 0 ∧ 1 ≤ (h' 3 2) ∨ r = 1) ∧ (h' 36 7) = (h 36 7) ∧ (h' 1 1) = (h 1 1) ∧ (h' 90 2) = (h 90 2) ∧ (h' 0 10) = (h 0 10) ∧ (h' 0 11) = (h 0 11) ∧ (h' 0 12) = (h 0 12) ∧ (h' 0 13) = (h 0 13) ∧ (h' 3 1) = (h 3 1) ∧ (h' 36 8) = (h 36 8) ∧ (h' 46 3) = (h 46 3) ∧ (h' 46 4) = (h 46 4) ∧ (h' 49 4) = (h 49 4) ∧ (h' 49 5) = (h 49 5) ∧ (h' 64 0) = (h 64 0) ∧ (h' 76 0) = (h 76 0))
set_option maxHeartbeats 4000000 in
theorem c_Reader_readStep_3_86_k3_1_58 {u : ov_U} {F : ov_H} {z : ov_Z} {h : ov_H} (d : Nat) (hd : 6 ≤ d) (U : ov_cap u) (I : ov_I F z h) (hw : ov_kw 1160568786830044007717928970 F) (k0 : h 3 1 = 58) : ov_T u d ov_m90 [ov_r 3, ov_r 86] z h (P_Reader_readStep_3_86_k3_1_58 F z h) := by
  refine ov_en rfl (Nat.le_of_ble_eq_true rfl) ?_
  show ov_R u d ov_m90 0 [(0, ov_r 3), (1, ov_r 86)] [] z h (P_Reader_readStep_3_86_k3_1_58 F z h)
  refine ov_blk (ls2 := [(0, ov_r 3), (1, ov_r 86)]) (st2 := [ov_r 3]) (pc2 := 1) b_90_0_1 rfl rfl ?_
  refine ov_cV (as := []) (st := []) (d2 := d - 1) d_90_1 lk_Reader_54 rfl (Nat.le_of_ble_eq_true rfl) (c := 6) (zb_3 I) (zs_3 I) ⟨by decide, rfl⟩ (by omega) (c_Reader_wayTold_3_k3_1_58 (d - 1) (by omega) U I k0) ?_
  rintro _ _ _ ⟨v2, rfl, rfl, rfl, f1⟩
  show ov_R u d ov_m90 4 [(0, ov_r 3), (1, ov_r 86)] [ov_i v2] z h (P_Reader_readStep_3_86_k3_1_58 F z h)
  have f3 : -1 ≤ v2 ∧ v2 ≤ 1 := f1
  clear f1
  refine ov_blk (ls2 := [(0, ov_r 3), (1, ov_r 86), (2, ov_i v2)]) (st2 := [ov_i (-1), ov_i v2]) (pc2 := 7) b_90_4_3 rfl rfl ?_
  refine ov_icne (tgt := 16) d_90_7 (by decide) (by omega) (by omega) (fun c4 => ?_) (fun c4 => ?_)
  · skip
    refine ov_blk (ls2 := [(0, ov_r 3), (1, ov_r 86), (2, ov_i v2)]) (st2 := [ov_r 86]) (pc2 := 17) b_90_16_1 rfl rfl ?_
    refine ov_getf (v := ov_i (h 86 1)) d_90_17 fl_Reader_62 (zb_86 I) (zs_86 I) rfl ?_
    have g5 := rg_86_1 I
    refine ov_blk (ls2 := [(0, ov_r 3), (1, ov_r 86), (2, ov_i v2), (3, ov_i (h 86 1))]) (st2 := [ov_r 3]) (pc2 := 22) b_90_20_2 rfl rfl ?_
    refine ov_getf (v := ov_r 58) d_90_22 fl_Reader_15 (zb_3 I) (zs_3 I) (congrArg ov_r k0) ?_
    refine ov_blk (ls2 := [(0, ov_r 3), (1, ov_r 86), (2, ov_i v2), (3, ov_i (h 86 1))]) (st2 := [ov_i v2, ov_i (h 86 1), ov_r 58]) (pc2 := 27) b_90_25_2 rfl rfl ?_
    refine ov_cV (as := [ov_i (h 86 1), ov_i v2]) (st := []) (d2 := d - 1) d_90_27 lk_Reader_65 rfl (Nat.le_of_ble_eq_true rfl) (c := 9) (zb_58 I) (zs_58 I) ⟨by decide, rfl⟩ (by omega) (c_Town_isBeyond_58 (d - 1) (by omega) U I (h 86 1) v2 (by omega) (by omega) (by omega)) ?_
    rintro _ _ _ ⟨v7, rfl, rfl, rfl, f6⟩
    show ov_R u d ov_m90 30 [(0, ov_r 3), (1, ov_r 86), (2, ov_i v2), (3, ov_i (h 86 1))] [ov_i v7] z h (P_Reader_readStep_3_86_k3_1_58 F z h)
    have f8 : (v7 = 0 ∨ v7 = 1) ∧ (v7 = 0 → (v2 = 0 → (h 86 1) % 6 < (h 58 0) - 1 ∧ (h 58 0) ≤ 6) ∧ (¬ v2 = 0 → (h 86 1) / 6 < (h 58 1) - 1 ∧ (h 58 1) ≤ 9)) := f6
    clear f6
    refine ov_ifne (tgt := 45) d_90_30 (by decide) (by omega) (fun c9 => ?_) (fun c9 => ?_)
    · skip
      refine ov_blk (ls2 := [(0, ov_r 3), (1, ov_r 86), (2, ov_i v2), (3, ov_i (h 86 1))]) (st2 := [ov_i 2, ov_r 3]) (pc2 := 47) b_90_45_2 rfl rfl ?_
      refine ov_cV (as := [ov_i 2]) (st := []) (d2 := d - 1) d_90_47 lk_Reader_58 rfl (Nat.le_of_ble_eq_true rfl) (c := 6) (zb_3 I) (zs_3 I) ⟨by decide, rfl⟩ (by omega) (c_Reader_fail_3_k3_1_58 (d - 1) (by omega) U I (ov_kws hw (by decide +kernel)) 2 k0 (by omega) (by omega)) ?_
      rintro _ z12 h13 ⟨v11, rfl, I14, f10⟩
      show ov_R u d ov_m90 50 [(0, ov_r 3), (1, ov_r 86), (2, ov_i v2), (3, ov_i (h 86 1))] [ov_i v11] z12 h13 (P_Reader_readStep_3_86_k3_1_58 F z h)
      have f15 : v11 = 0 ∧ 1 ≤ (h13 3 2) ∧ (h13 36 7) = (h 36 7) ∧ (h13 1 1) = (h 1 1) ∧ (h13 90 2) = (h 90 2) ∧ (h13 0 10) = (h 0 10) ∧ (h13 0 11) = (h 0 11) ∧ (h13 0 12) = (h 0 12) ∧ (h13 0 13) = (h 0 13) ∧ (h13 3 1) = (h 3 1) ∧ (h13 36 8) = (h 36 8) ∧ (h13 46 3) = (h 46 3) ∧ (h13 46 4) = (h 46 4) ∧ (h13 49 4) = (h 49 4) ∧ (h13 49 5) = (h 49 5) ∧ (h13 64 0) = (h 64 0) ∧ (h13 76 0) = (h 76 0) := f10
      clear f10
      have e16 : h13 3 1 = 58 := by omega
      exact ov_retz (st := []) d_90_50 rfl (by omega) ⟨_, rfl, I14, (by show (v11 = 0 ∧ 1 ≤ (h13 3 2) ∨ v11 = 1) ∧ (h13 36 7) = (h 36 7) ∧ (h13 1 1) = (h 1 1) ∧ (h13 90 2) = (h 90 2) ∧ (h13 0 10) = (h 0 10) ∧ (h13 0 11) = (h 0 11) ∧ (h13 0 12) = (h 0 12) ∧ (h13 0 13) = (h 0 13) ∧ (h13 3 1) = (h 3 1) ∧ (h13 36 8) = (h 36 8) ∧ (h13 46 3) = (h 46 3) ∧ (h13 46 4) = (h 46 4) ∧ (h13 49 4) = (h 49 4) ∧ (h13 49 5) = (h 49 5) ∧ (h13 64 0) = (h 64 0) ∧ (h13 76 0) = (h 76 0); omega)⟩
    · skip
      refine ov_blk (ls2 := [(0, ov_r 3), (1, ov_r 86), (2, ov_i v2), (3, ov_i (h 86 1))]) (st2 := [ov_r 3]) (pc2 := 34) b_90_33_1 rfl rfl ?_
      refine ov_getf (v := ov_r 58) d_90_34 fl_Reader_15 (zb_3 I) (zs_3 I) (congrArg ov_r k0) ?_
      refine ov_blk (ls2 := [(0, ov_r 3), (1, ov_r 86), (2, ov_i v2), (3, ov_i (h 86 1))]) (st2 := [ov_i v2, ov_i (h 86 1), ov_r 58]) (pc2 := 39) b_90_37_2 rfl rfl ?_
      refine ov_cV (as := [ov_i (h 86 1), ov_i v2]) (st := []) (d2 := d - 1) d_90_39 lk_Reader_69 rfl (Nat.le_of_ble_eq_true rfl) (c := 9) (zb_58 I) (zs_58 I) ⟨by decide, rfl⟩ (by omega) (c_Town_isBarred_58 (d - 1) (by omega) U I (h 86 1) v2 (by omega) (by omega) (by omega)) ?_
      rintro _ _ _ ⟨v18, rfl, rfl, rfl, f17⟩
      show ov_R u d ov_m90 42 [(0, ov_r 3), (1, ov_r 86), (2, ov_i v2), (3, ov_i (h 86 1))] [ov_i v18] z h (P_Reader_readStep_3_86_k3_1_58 F z h)
      have f19 : (v18 = 0 ∨ v18 = 1) := f17
      clear f17
      refine ov_ifeq (tgt := 51) d_90_42 (by decide) (by omega) (fun c20 => ?_) (fun c20 => ?_)
      · skip
        refine ov_blk (ls2 := [(0, ov_r 3), (1, ov_r 86), (2, ov_i v2), (3, ov_i (h 86 1))]) (st2 := [ov_r 86]) (pc2 := 52) b_90_51_1 rfl rfl ?_
        refine ov_getf (v := ov_i (h 86 0)) d_90_52 fl_Reader_72 (zb_86 I) (zs_86 I) rfl ?_
        have g21 := rg_86_0 I
        refine ov_blk (ls2 := [(0, ov_r 3), (1, ov_r 86), (2, ov_i v2), (3, ov_i (h 86 1))]) (st2 := [ov_i 13, ov_i (h 86 0)]) (pc2 := 57) b_90_55_1 rfl rfl ?_
        refine ov_iclt (tgt := 66) d_90_57 (by decide) (by omega) (by omega) (fun c22 => ?_) (fun c22 => ?_)
        · skip
          refine ov_blk (ls2 := [(0, ov_r 3), (1, ov_r 86), (2, ov_i v2), (3, ov_i (h 86 1))]) (st2 := [ov_r 3]) (pc2 := 67) b_90_66_1 rfl rfl ?_
          refine ov_getf (v := ov_r 1) d_90_67 fl_Reader_9 (zb_3 I) (zs_3 I) (congrArg ov_r (rg_3_0 I)) ?_
          refine ov_cV (as := []) (st := []) (d2 := d - 1) d_90_70 lk_Reader_75 rfl (Nat.le_of_ble_eq_true rfl) (c := 8) (zb_1 I) (zs_1 I) ⟨by decide, rfl⟩ (by omega) (c_Tape_advance_1 (d - 1) (by omega) U I (ov_kws hw (by decide +kernel))) ?_
          rintro _ z24 h25 ⟨rfl, I26, f23⟩
          show ov_R u d ov_m90 73 [(0, ov_r 3), (1, ov_r 86), (2, ov_i v2), (3, ov_i (h 86 1))] [] z24 h25 (P_Reader_readStep_3_86_k3_1_58 F z h)
          have f27 : (h25 3 3) = (h 3 3) ∧ (h25 36 7) = (h 36 7) ∧ (h25 1 1) = (h 1 1) ∧ (h25 90 2) = (h 90 2) ∧ (h25 0 10) = (h 0 10) ∧ (h25 0 11) = (h 0 11) ∧ (h25 0 12) = (h 0 12) ∧ (h25 0 13) = (h 0 13) ∧ (h25 3 1) = (h 3 1) ∧ (h25 36 8) = (h 36 8) ∧ (h25 46 3) = (h 46 3) ∧ (h25 46 4) = (h 46 4) ∧ (h25 49 4) = (h 49 4) ∧ (h25 49 5) = (h 49 5) ∧ (h25 64 0) = (h 64 0) ∧ (h25 76 0) = (h 76 0) := f23
          clear f23
          have e28 : h25 3 1 = 58 := by omega
          refine ov_blk (ls2 := [(0, ov_r 3), (1, ov_r 86), (2, ov_i v2), (3, ov_i (h 86 1))]) (st2 := [ov_i 9999, ov_i 0, ov_r 3]) (pc2 := 78) b_90_73_3 rfl rfl ?_
          refine ov_cV (as := [ov_i 0, ov_i 9999]) (st := []) (d2 := d - 1) d_90_78 lk_Reader_78 rfl (Nat.le_of_ble_eq_true rfl) (c := 6) (zb_3 I26) (zs_3 I26) ⟨by decide, rfl⟩ (by omega) (c_Reader_takeNumber_3_k3_1_58 (d - 1) (by omega) U I26 (ov_kws hw (by decide +kernel)) 0 9999 e28 (by omega) (by omega)) ?_
          rintro _ z31 h32 ⟨v30, rfl, I33, f29⟩
          show ov_R u d ov_m90 81 [(0, ov_r 3), (1, ov_r 86), (2, ov_i v2), (3, ov_i (h 86 1))] [ov_i v30] z31 h32 (P_Reader_readStep_3_86_k3_1_58 F z h)
          have f34 : (v30 = 0 ∧ 1 ≤ (h32 3 2) ∨ v30 = 1 ∧ (0 : Int) ≤ (h32 3 3) ∧ (h32 3 3) ≤ (9999 : Int)) ∧ (h32 36 7) = (h25 36 7) ∧ (h32 1 1) = (h25 1 1) ∧ (h32 90 2) = (h25 90 2) ∧ (h32 0 10) = (h25 0 10) ∧ (h32 0 11) = (h25 0 11) ∧ (h32 0 12) = (h25 0 12) ∧ (h32 0 13) = (h25 0 13) ∧ (h32 3 1) = (h25 3 1) ∧ (h32 36 8) = (h25 36 8) ∧ (h32 46 3) = (h25 46 3) ∧ (h32 46 4) = (h25 46 4) ∧ (h32 49 4) = (h25 49 4) ∧ (h32 49 5) = (h25 49 5) ∧ (h32 64 0) = (h25 64 0) ∧ (h32 76 0) = (h25 76 0) := f29
          clear f29
          have e35 : h32 3 1 = 58 := by omega
          refine ov_ifne (tgt := 86) d_90_81 (by decide) (by omega) (fun c36 => ?_) (fun c36 => ?_)
          · skip
            refine ov_blk (ls2 := [(0, ov_r 3), (1, ov_r 86), (2, ov_i v2), (3, ov_i (h 86 1))]) (st2 := [ov_r 3, ov_i v2, ov_i (h 86 1), ov_r 86]) (pc2 := 90) b_90_86_4 rfl rfl ?_
            refine ov_getf (v := ov_i (h32 3 3)) d_90_90 fl_Reader_81 (zb_3 I33) (zs_3 I33) rfl ?_
            have g37 := rg_3_3 I33
            refine ov_blk (ls2 := [(0, ov_r 3), (1, ov_r 86), (2, ov_i v2), (3, ov_i (h 86 1))]) (st2 := [ov_r 3, ov_i (h32 3 3), ov_i v2, ov_i (h 86 1), ov_r 86]) (pc2 := 94) b_90_93_1 rfl rfl ?_
            refine ov_getf (v := ov_r 58) d_90_94 fl_Reader_15 (zb_3 I33) (zs_3 I33) (congrArg ov_r e35) ?_
            refine ov_blk (ls2 := [(0, ov_r 3), (1, ov_r 86), (2, ov_i v2), (3, ov_i (h 86 1))]) (st2 := [ov_i v2, ov_i (h 86 1), ov_r 58, ov_i (h32 3 3), ov_i v2, ov_i (h 86 1), ov_r 86]) (pc2 := 99) b_90_97_2 rfl rfl ?_
            refine ov_cV (as := [ov_i (h 86 1), ov_i v2]) (st := [ov_i (h32 3 3), ov_i v2, ov_i (h 86 1), ov_r 86]) (d2 := d - 1) d_90_99 lk_Reader_84 rfl (Nat.le_of_ble_eq_true rfl) (c := 9) (zb_58 I33) (zs_58 I33) ⟨by decide, rfl⟩ (by omega) (c_Town_after_58 (d - 1) (by omega) U I33 (h 86 1) v2 (by omega) (by omega) (by omega)) ?_
            rintro _ _ _ ⟨v39, rfl, rfl, rfl, f38⟩
            show ov_R u d ov_m90 102 [(0, ov_r 3), (1, ov_r 86), (2, ov_i v2), (3, ov_i (h 86 1))] [ov_i v39, ov_i (h32 3 3), ov_i v2, ov_i (h 86 1), ov_r 86] z31 h32 (P_Reader_readStep_3_86_k3_1_58 F z h)
            have f40 : (v2 = 0 → v39 = (h 86 1) + 1) ∧ (¬ v2 = 0 → v39 = (h 86 1) + 6) := f38
            clear f38
            refine ov_cV (as := [ov_i (h 86 1), ov_i v2, ov_i (h32 3 3), ov_i v39]) (st := []) (d2 := d - 1) d_90_102 lk_Reader_88 rfl (Nat.le_of_ble_eq_true rfl) (c := 10) (zb_86 I33) (zs_86 I33) ⟨by decide, rfl⟩ (by omega) (c_Walk_add_86 (d - 1) (by omega) U I33 (ov_kws hw (by decide +kernel)) (h 86 1) v2 (h32 3 3) v39 (by omega) (by omega) (by omega) (by omega) (by omega) (by omega) (by omega)) ?_
            rintro _ z42 h43 ⟨rfl, I44, f41⟩
            show ov_R u d ov_m90 105 [(0, ov_r 3), (1, ov_r 86), (2, ov_i v2), (3, ov_i (h 86 1))] [] z42 h43 (P_Reader_readStep_3_86_k3_1_58 F z h)
            have f45 : (h43 36 7) = (h32 36 7) ∧ (h43 1 1) = (h32 1 1) ∧ (h43 90 2) = (h32 90 2) ∧ (h43 0 10) = (h32 0 10) ∧ (h43 0 11) = (h32 0 11) ∧ (h43 0 12) = (h32 0 12) ∧ (h43 0 13) = (h32 0 13) ∧ (h43 3 1) = (h32 3 1) ∧ (h43 36 8) = (h32 36 8) ∧ (h43 46 3) = (h32 46 3) ∧ (h43 46 4) = (h32 46 4) ∧ (h43 49 4) = (h32 49 4) ∧ (h43 49 5) = (h32 49 5) ∧ (h43 64 0) = (h32 64 0) ∧ (h43 76 0) = (h32 76 0) := f41
            clear f41
            have e46 : h43 3 1 = 58 := by omega
            refine ov_blk (ls2 := [(0, ov_r 3), (1, ov_r 86), (2, ov_i v2), (3, ov_i (h 86 1))]) (st2 := [ov_i 59, ov_r 3]) (pc2 := 108) b_90_105_2 rfl rfl ?_
            refine ov_cV (as := [ov_i 59]) (st := []) (d2 := d - 1) d_90_108 lk_Reader_92 rfl (Nat.le_of_ble_eq_true rfl) (c := 6) (zb_3 I44) (zs_3 I44) ⟨by decide, rfl⟩ (by omega) (c_Reader_takeSign_3_k3_1_58 (d - 1) (by omega) U I44 (ov_kws hw (by decide +kernel)) 59 e46 (by omega)) ?_
            rintro _ z49 h50 ⟨v48, rfl, I51, f47⟩
            show ov_R u d ov_m90 111 [(0, ov_r 3), (1, ov_r 86), (2, ov_i v2), (3, ov_i (h 86 1))] [ov_i v48] z49 h50 (P_Reader_readStep_3_86_k3_1_58 F z h)
            have f52 : (v48 = 0 ∧ 1 ≤ (h50 3 2) ∨ v48 = 1) ∧ (h50 36 7) = (h43 36 7) ∧ (h50 1 1) = (h43 1 1) ∧ (h50 90 2) = (h43 90 2) ∧ (h50 0 10) = (h43 0 10) ∧ (h50 0 11) = (h43 0 11) ∧ (h50 0 12) = (h43 0 12) ∧ (h50 0 13) = (h43 0 13) ∧ (h50 3 1) = (h43 3 1) ∧ (h50 36 8) = (h43 36 8) ∧ (h50 46 3) = (h43 46 3) ∧ (h50 46 4) = (h43 46 4) ∧ (h50 49 4) = (h43 49 4) ∧ (h50 49 5) = (h43 49 5) ∧ (h50 64 0) = (h43 64 0) ∧ (h50 76 0) = (h43 76 0) := f47
            clear f47
            have e53 : h50 3 1 = 58 := by omega
            exact ov_retz (st := []) d_90_111 rfl (by omega) ⟨_, rfl, I51, (by show (v48 = 0 ∧ 1 ≤ (h50 3 2) ∨ v48 = 1) ∧ (h50 36 7) = (h 36 7) ∧ (h50 1 1) = (h 1 1) ∧ (h50 90 2) = (h 90 2) ∧ (h50 0 10) = (h 0 10) ∧ (h50 0 11) = (h 0 11) ∧ (h50 0 12) = (h 0 12) ∧ (h50 0 13) = (h 0 13) ∧ (h50 3 1) = (h 3 1) ∧ (h50 36 8) = (h 36 8) ∧ (h50 46 3) = (h 46 3) ∧ (h50 46 4) = (h 46 4) ∧ (h50 49 4) = (h 49 4) ∧ (h50 49 5) = (h 49 5) ∧ (h50 64 0) = (h 64 0) ∧ (h50 76 0) = (h 76 0); omega)⟩
          · skip
            refine ov_blk (ls2 := [(0, ov_r 3), (1, ov_r 86), (2, ov_i v2), (3, ov_i (h 86 1))]) (st2 := [ov_i 0]) (pc2 := 85) b_90_84_1 rfl rfl ?_
            exact ov_retz (st := []) d_90_85 rfl (by omega) ⟨_, rfl, I33, (by show (0 = 0 ∧ 1 ≤ (h32 3 2) ∨ 0 = 1) ∧ (h32 36 7) = (h 36 7) ∧ (h32 1 1) = (h 1 1) ∧ (h32 90 2) = (h 90 2) ∧ (h32 0 10) = (h 0 10) ∧ (h32 0 11) = (h 0 11) ∧ (h32 0 12) = (h 0 12) ∧ (h32 0 13) = (h 0 13) ∧ (h32 3 1) = (h 3 1) ∧ (h32 36 8) = (h 36 8) ∧ (h32 46 3) = (h 46 3) ∧ (h32 46 4) = (h 46 4) ∧ (h32 49 4) = (h 49 4) ∧ (h32 49 5) = (h 49 5) ∧ (h32 64 0) = (h 64 0) ∧ (h32 76 0) = (h 76 0); omega)⟩
        · skip
          refine ov_blk (ls2 := [(0, ov_r 3), (1, ov_r 86), (2, ov_i v2), (3, ov_i (h 86 1))]) (st2 := [ov_i 5, ov_r 3]) (pc2 := 62) b_90_60_2 rfl rfl ?_
          refine ov_cV (as := [ov_i 5]) (st := []) (d2 := d - 1) d_90_62 lk_Reader_58 rfl (Nat.le_of_ble_eq_true rfl) (c := 6) (zb_3 I) (zs_3 I) ⟨by decide, rfl⟩ (by omega) (c_Reader_fail_3_k3_1_58 (d - 1) (by omega) U I (ov_kws hw (by decide +kernel)) 5 k0 (by omega) (by omega)) ?_
          rintro _ z56 h57 ⟨v55, rfl, I58, f54⟩
          show ov_R u d ov_m90 65 [(0, ov_r 3), (1, ov_r 86), (2, ov_i v2), (3, ov_i (h 86 1))] [ov_i v55] z56 h57 (P_Reader_readStep_3_86_k3_1_58 F z h)
          have f59 : v55 = 0 ∧ 1 ≤ (h57 3 2) ∧ (h57 36 7) = (h 36 7) ∧ (h57 1 1) = (h 1 1) ∧ (h57 90 2) = (h 90 2) ∧ (h57 0 10) = (h 0 10) ∧ (h57 0 11) = (h 0 11) ∧ (h57 0 12) = (h 0 12) ∧ (h57 0 13) = (h 0 13) ∧ (h57 3 1) = (h 3 1) ∧ (h57 36 8) = (h 36 8) ∧ (h57 46 3) = (h 46 3) ∧ (h57 46 4) = (h 46 4) ∧ (h57 49 4) = (h 49 4) ∧ (h57 49 5) = (h 49 5) ∧ (h57 64 0) = (h 64 0) ∧ (h57 76 0) = (h 76 0) := f54
          clear f54
          have e60 : h57 3 1 = 58 := by omega
          exact ov_retz (st := []) d_90_65 rfl (by omega) ⟨_, rfl, I58, (by show (v55 = 0 ∧ 1 ≤ (h57 3 2) ∨ v55 = 1) ∧ (h57 36 7) = (h 36 7) ∧ (h57 1 1) = (h 1 1) ∧ (h57 90 2) = (h 90 2) ∧ (h57 0 10) = (h 0 10) ∧ (h57 0 11) = (h 0 11) ∧ (h57 0 12) = (h 0 12) ∧ (h57 0 13) = (h 0 13) ∧ (h57 3 1) = (h 3 1) ∧ (h57 36 8) = (h 36 8) ∧ (h57 46 3) = (h 46 3) ∧ (h57 46 4) = (h 46 4) ∧ (h57 49 4) = (h 49 4) ∧ (h57 49 5) = (h 49 5) ∧ (h57 64 0) = (h 64 0) ∧ (h57 76 0) = (h 76 0); omega)⟩
      · skip
        refine ov_blk (ls2 := [(0, ov_r 3), (1, ov_r 86), (2, ov_i v2), (3, ov_i (h 86 1))]) (st2 := [ov_i 2, ov_r 3]) (pc2 := 47) b_90_45_2 rfl rfl ?_
        refine ov_cV (as := [ov_i 2]) (st := []) (d2 := d - 1) d_90_47 lk_Reader_58 rfl (Nat.le_of_ble_eq_true rfl) (c := 6) (zb_3 I) (zs_3 I) ⟨by decide, rfl⟩ (by omega) (c_Reader_fail_3_k3_1_58 (d - 1) (by omega) U I (ov_kws hw (by decide +kernel)) 2 k0 (by omega) (by omega)) ?_
        rintro _ z63 h64 ⟨v62, rfl, I65, f61⟩
        show ov_R u d ov_m90 50 [(0, ov_r 3), (1, ov_r 86), (2, ov_i v2), (3, ov_i (h 86 1))] [ov_i v62] z63 h64 (P_Reader_readStep_3_86_k3_1_58 F z h)
        have f66 : v62 = 0 ∧ 1 ≤ (h64 3 2) ∧ (h64 36 7) = (h 36 7) ∧ (h64 1 1) = (h 1 1) ∧ (h64 90 2) = (h 90 2) ∧ (h64 0 10) = (h 0 10) ∧ (h64 0 11) = (h 0 11) ∧ (h64 0 12) = (h 0 12) ∧ (h64 0 13) = (h 0 13) ∧ (h64 3 1) = (h 3 1) ∧ (h64 36 8) = (h 36 8) ∧ (h64 46 3) = (h 46 3) ∧ (h64 46 4) = (h 46 4) ∧ (h64 49 4) = (h 49 4) ∧ (h64 49 5) = (h 49 5) ∧ (h64 64 0) = (h 64 0) ∧ (h64 76 0) = (h 76 0) := f61
        clear f61
        have e67 : h64 3 1 = 58 := by omega
        exact ov_retz (st := []) d_90_50 rfl (by omega) ⟨_, rfl, I65, (by show (v62 = 0 ∧ 1 ≤ (h64 3 2) ∨ v62 = 1) ∧ (h64 36 7) = (h 36 7) ∧ (h64 1 1) = (h 1 1) ∧ (h64 90 2) = (h 90 2) ∧ (h64 0 10) = (h 0 10) ∧ (h64 0 11) = (h 0 11) ∧ (h64 0 12) = (h 0 12) ∧ (h64 0 13) = (h 0 13) ∧ (h64 3 1) = (h 3 1) ∧ (h64 36 8) = (h 36 8) ∧ (h64 46 3) = (h 46 3) ∧ (h64 46 4) = (h 46 4) ∧ (h64 49 4) = (h 49 4) ∧ (h64 49 5) = (h 49 5) ∧ (h64 64 0) = (h 64 0) ∧ (h64 76 0) = (h 76 0); omega)⟩
  · skip
    refine ov_blk (ls2 := [(0, ov_r 3), (1, ov_r 86), (2, ov_i v2)]) (st2 := [ov_i 1, ov_r 3]) (pc2 := 12) b_90_10_2 rfl rfl ?_
    refine ov_cV (as := [ov_i 1]) (st := []) (d2 := d - 1) d_90_12 lk_Reader_58 rfl (Nat.le_of_ble_eq_true rfl) (c := 6) (zb_3 I) (zs_3 I) ⟨by decide, rfl⟩ (by omega) (c_Reader_fail_3_k3_1_58 (d - 1) (by omega) U I (ov_kws hw (by decide +kernel)) 1 k0 (by omega) (by omega)) ?_
    rintro _ z70 h71 ⟨v69, rfl, I72, f68⟩
    show ov_R u d ov_m90 15 [(0, ov_r 3), (1, ov_r 86), (2, ov_i v2)] [ov_i v69] z70 h71 (P_Reader_readStep_3_86_k3_1_58 F z h)
    have f73 : v69 = 0 ∧ 1 ≤ (h71 3 2) ∧ (h71 36 7) = (h 36 7) ∧ (h71 1 1) = (h 1 1) ∧ (h71 90 2) = (h 90 2) ∧ (h71 0 10) = (h 0 10) ∧ (h71 0 11) = (h 0 11) ∧ (h71 0 12) = (h 0 12) ∧ (h71 0 13) = (h 0 13) ∧ (h71 3 1) = (h 3 1) ∧ (h71 36 8) = (h 36 8) ∧ (h71 46 3) = (h 46 3) ∧ (h71 46 4) = (h 46 4) ∧ (h71 49 4) = (h 49 4) ∧ (h71 49 5) = (h 49 5) ∧ (h71 64 0) = (h 64 0) ∧ (h71 76 0) = (h 76 0) := f68
    clear f68
    have e74 : h71 3 1 = 58 := by omega
    exact ov_retz (st := []) d_90_15 rfl (by omega) ⟨_, rfl, I72, (by show (v69 = 0 ∧ 1 ≤ (h71 3 2) ∨ v69 = 1) ∧ (h71 36 7) = (h 36 7) ∧ (h71 1 1) = (h 1 1) ∧ (h71 90 2) = (h 90 2) ∧ (h71 0 10) = (h 0 10) ∧ (h71 0 11) = (h 0 11) ∧ (h71 0 12) = (h 0 12) ∧ (h71 0 13) = (h 0 13) ∧ (h71 3 1) = (h 3 1) ∧ (h71 36 8) = (h 36 8) ∧ (h71 46 3) = (h 46 3) ∧ (h71 46 4) = (h 46 4) ∧ (h71 49 4) = (h 49 4) ∧ (h71 49 5) = (h 49 5) ∧ (h71 64 0) = (h 64 0) ∧ (h71 76 0) = (h 76 0); omega)⟩
abbrev P_Reader_readWalk_3_58_86 (F : ov_H) (z : ov_Z) (h : ov_H)  : Option ov_V → ov_Z → ov_H → Prop := fun r0 z' h' => ∃ r : Int, r0 = some (ov_i r) ∧ ov_I F z' h' ∧ ((h' 1 1) = 0 ∧ (h' 36 7) = (h 36 7) ∧ (h' 90 2) = (h 90 2) ∧ (h' 0 10) = (h 0 10) ∧ (h' 0 11) = (h 0 11) ∧ (h' 0 12) = (h 0 12) ∧ (h' 0 13) = (h 0 13) ∧ (h' 36 8) = (h 36 8) ∧ (h' 46 3) = (h 46 3) ∧ (h' 46 4) = (h 46 4) ∧ (h' 49 4) = (h 49 4) ∧ (h' 49 5) = (h 49 5) ∧ (h' 64 0) = (h 64 0) ∧ (h' 76 0) = (h 76 0))
set_option maxHeartbeats 4000000 in
theorem c_Reader_readWalk_3_58_86 {u : ov_U} {F : ov_H} {z : ov_Z} {h : ov_H} (d : Nat) (hd : 7 ≤ d) (U : ov_cap u) (I : ov_I F z h) (hw : ov_kw 1160568786830044007717928970 F) : ov_T u d ov_m89 [ov_r 3, ov_r 58, ov_r 86] z h (P_Reader_readWalk_3_58_86 F z h) := by
  refine ov_en rfl (Nat.le_of_ble_eq_true rfl) ?_
  show ov_R u d ov_m89 0 [(0, ov_r 3), (1, ov_r 58), (2, ov_r 86)] [] z h (P_Reader_readWalk_3_58_86 F z h)
  refine ov_blk (ls2 := [(0, ov_r 3), (1, ov_r 58), (2, ov_r 86)]) (st2 := [ov_r 58, ov_r 3]) (pc2 := 2) b_89_0_2 rfl rfl ?_
  refine ov_putf (x := 58) d_89_2 fl_Reader_15 (zb_3 I) (zs_3 I) rfl nk_2 rfl ?_
  have I1 := up_3_1 (x := 58) I (by omega) (hw 3 (by decide +kernel))
  refine ov_blk (ls2 := [(0, ov_r 3), (1, ov_r 58), (2, ov_r 86)]) (st2 := [ov_r 86]) (pc2 := 6) b_89_5_1 rfl rfl ?_
  refine ov_cV (as := []) (st := []) (d2 := d - 1) d_89_6 lk_Reader_47 rfl (Nat.le_of_ble_eq_true rfl) (c := 10) (zb_86 I1) (zs_86 I1) ⟨by decide, rfl⟩ (by omega) (c_Walk_clear_86 (d - 1) (by omega) U I1 (ov_kws hw (by decide +kernel))) ?_
  rintro _ z3 h4 ⟨rfl, I5, f2⟩
  show ov_R u d ov_m89 9 [(0, ov_r 3), (1, ov_r 58), (2, ov_r 86)] [] z3 h4 (P_Reader_readWalk_3_58_86 F z h)
  have f6 : (h4 36 7) = (h 36 7) ∧ (h4 1 1) = (h 1 1) ∧ (h4 90 2) = (h 90 2) ∧ (h4 0 10) = (h 0 10) ∧ (h4 0 11) = (h 0 11) ∧ (h4 0 12) = (h 0 12) ∧ (h4 0 13) = (h 0 13) ∧ (h4 3 1) = 58 ∧ (h4 36 8) = (h 36 8) ∧ (h4 46 3) = (h 46 3) ∧ (h4 46 4) = (h 46 4) ∧ (h4 49 4) = (h 49 4) ∧ (h4 49 5) = (h 49 5) ∧ (h4 64 0) = (h 64 0) ∧ (h4 76 0) = (h 76 0) := f2
  clear f2
  have e7 : h4 3 1 = 58 := by omega
  refine ov_blk (ls2 := [(0, ov_r 3), (1, ov_r 58), (2, ov_r 86)]) (st2 := [ov_i 0, ov_r 3]) (pc2 := 11) b_89_9_2 rfl rfl ?_
  refine ov_putf (x := 0) d_89_11 fl_Reader_24 (zb_3 I5) (zs_3 I5) rfl nk_0 rfl ?_
  have I8 := up_3_2 (x := 0) I5 (by omega) (hw 3 (by decide +kernel))
  refine ov_blk (ls2 := [(0, ov_r 3), (1, ov_r 58), (2, ov_r 86)]) (st2 := [ov_r 3]) (pc2 := 15) b_89_14_1 rfl rfl ?_
  refine ov_getf (v := ov_r 1) d_89_15 fl_Reader_9 (zb_3 I8) (zs_3 I8) (congrArg ov_r (rg_3_0 I8)) ?_
  refine ov_cV (as := []) (st := []) (d2 := d - 1) d_89_18 lk_Reader_28 rfl (Nat.le_of_ble_eq_true rfl) (c := 8) (zb_1 I8) (zs_1 I8) ⟨by decide, rfl⟩ (by omega) (c_Tape_begin_1 (d - 1) (by omega) U I8 (ov_kws hw (by decide +kernel))) ?_
  rintro _ z10 h11 ⟨rfl, I12, f9⟩
  show ov_R u d ov_m89 21 [(0, ov_r 3), (1, ov_r 58), (2, ov_r 86)] [] z10 h11 (P_Reader_readWalk_3_58_86 F z h)
  have f13 : (h11 3 3) = (h4 3 3) ∧ (h11 36 7) = (h4 36 7) ∧ (h11 1 1) = (h4 1 1) ∧ (h11 90 2) = (h4 90 2) ∧ (h11 0 10) = (h4 0 10) ∧ (h11 0 11) = (h4 0 11) ∧ (h11 0 12) = (h4 0 12) ∧ (h11 0 13) = (h4 0 13) ∧ (h11 3 1) = (h4 3 1) ∧ (h11 36 8) = (h4 36 8) ∧ (h11 46 3) = (h4 46 3) ∧ (h11 46 4) = (h4 46 4) ∧ (h11 49 4) = (h4 49 4) ∧ (h11 49 5) = (h4 49 5) ∧ (h11 64 0) = (h4 64 0) ∧ (h11 76 0) = (h4 76 0) := f9
  clear f9
  have e14 : h11 3 1 = 58 := by omega
  refine ov_blk (ls2 := [(0, ov_r 3), (1, ov_r 58), (2, ov_r 86), (3, ov_i 1), (4, ov_i 0)]) (st2 := []) (pc2 := 26) b_89_21_4 rfl rfl ?_
  have L18 : ∀ (n15 : Nat) (x3 : Int) (x4 : Int) (z19 : ov_Z) (h20 : ov_H) (I21 : ov_I F z19 h20) (q17 : (x3 = 0 ∨ x3 = 1) ∧ 0 ≤ x4 ∧ x4 ≤ 1000 ∧ (h20 36 7) = (h 36 7) ∧ (h20 90 2) = (h 90 2) ∧ (h20 0 10) = (h 0 10) ∧ (h20 0 11) = (h 0 11) ∧ (h20 0 12) = (h 0 12) ∧ (h20 0 13) = (h 0 13) ∧ (h20 36 8) = (h 36 8) ∧ (h20 46 3) = (h 46 3) ∧ (h20 46 4) = (h 46 4) ∧ (h20 49 4) = (h 49 4) ∧ (h20 49 5) = (h 49 5) ∧ (h20 64 0) = (h 64 0) ∧ (h20 76 0) = (h 76 0) ∧ h20 3 1 = 58), 1000 - x4 < (n15 : Int) → ov_R u d ov_m89 26 [(0, ov_r 3), (1, ov_r 58), (2, ov_r 86), (3, ov_i x3), (4, ov_i x4)] [] z19 h20 (P_Reader_readWalk_3_58_86 F z h) := by
    intro n15
    induction n15 with
    | zero =>
      intro x3 x4 z19 h20 I21 q17 hn22
      exact absurd hn22 (by omega)
    | succ n15 ih16 =>
      intro x3 x4 z19 h20 I21 q17 hn22
      have e23 : h20 3 1 = 58 := by omega
      refine ov_blk (ls2 := [(0, ov_r 3), (1, ov_r 58), (2, ov_r 86), (3, ov_i x3), (4, ov_i x4)]) (st2 := [ov_i 1000, ov_i x4]) (pc2 := 31) b_89_26_2 rfl rfl ?_
      refine ov_icge (tgt := 60) d_89_31 (by decide) (by omega) (by omega) (fun c24 => ?_) (fun c24 => ?_)
      · skip
        refine ov_blk (ls2 := [(0, ov_r 3), (1, ov_r 58), (2, ov_r 86), (3, ov_i x3), (4, ov_i x4)]) (st2 := [ov_r 3]) (pc2 := 61) b_89_60_1 rfl rfl ?_
        refine ov_getf (v := ov_r 1) d_89_61 fl_Reader_9 (zb_3 I21) (zs_3 I21) (congrArg ov_r (rg_3_0 I21)) ?_
        refine ov_cV (as := []) (st := []) (d2 := d - 1) d_89_64 lk_Reader_46 rfl (Nat.le_of_ble_eq_true rfl) (c := 8) (zb_1 I21) (zs_1 I21) ⟨by decide, rfl⟩ (by omega) (c_Tape_clear_1 (d - 1) (by omega) U I21 (ov_kws hw (by decide +kernel))) ?_
        rintro _ z26 h27 ⟨rfl, I28, f25⟩
        show ov_R u d ov_m89 67 [(0, ov_r 3), (1, ov_r 58), (2, ov_r 86), (3, ov_i x3), (4, ov_i x4)] [] z26 h27 (P_Reader_readWalk_3_58_86 F z h)
        have f29 : (h27 1 1) = 0 ∧ (h27 3 2) = (h20 3 2) ∧ (h27 36 7) = (h20 36 7) ∧ (h27 90 2) = (h20 90 2) ∧ (h27 0 10) = (h20 0 10) ∧ (h27 0 11) = (h20 0 11) ∧ (h27 0 12) = (h20 0 12) ∧ (h27 0 13) = (h20 0 13) ∧ (h27 3 1) = (h20 3 1) ∧ (h27 36 8) = (h20 36 8) ∧ (h27 46 3) = (h20 46 3) ∧ (h27 46 4) = (h20 46 4) ∧ (h27 49 4) = (h20 49 4) ∧ (h27 49 5) = (h20 49 5) ∧ (h27 64 0) = (h20 64 0) ∧ (h27 76 0) = (h20 76 0) := f25
        clear f25
        have e30 : h27 3 1 = 58 := by omega
        refine ov_blk (ls2 := [(0, ov_r 3), (1, ov_r 58), (2, ov_r 86), (3, ov_i x3), (4, ov_i x4)]) (st2 := [ov_r 3]) (pc2 := 68) b_89_67_1 rfl rfl ?_
        refine ov_getf (v := ov_i (h27 3 2)) d_89_68 fl_Reader_24 (zb_3 I28) (zs_3 I28) rfl ?_
        have g31 := rg_3_2 I28
        exact ov_reti (st := []) d_89_71 rfl ⟨_, rfl, I28, (by show (h27 1 1) = 0 ∧ (h27 36 7) = (h 36 7) ∧ (h27 90 2) = (h 90 2) ∧ (h27 0 10) = (h 0 10) ∧ (h27 0 11) = (h 0 11) ∧ (h27 0 12) = (h 0 12) ∧ (h27 0 13) = (h 0 13) ∧ (h27 36 8) = (h 36 8) ∧ (h27 46 3) = (h 46 3) ∧ (h27 46 4) = (h 46 4) ∧ (h27 49 4) = (h 49 4) ∧ (h27 49 5) = (h 49 5) ∧ (h27 64 0) = (h 64 0) ∧ (h27 76 0) = (h 76 0); omega)⟩
      · skip
        refine ov_blk (ls2 := [(0, ov_r 3), (1, ov_r 58), (2, ov_r 86), (3, ov_i x3), (4, ov_i x4)]) (st2 := [ov_i x3]) (pc2 := 35) b_89_34_1 rfl rfl ?_
        refine ov_ifeq (tgt := 60) d_89_35 (by decide) (by omega) (fun c32 => ?_) (fun c32 => ?_)
        · skip
          refine ov_blk (ls2 := [(0, ov_r 3), (1, ov_r 58), (2, ov_r 86), (3, ov_i x3), (4, ov_i x4)]) (st2 := [ov_r 3]) (pc2 := 61) b_89_60_1 rfl rfl ?_
          refine ov_getf (v := ov_r 1) d_89_61 fl_Reader_9 (zb_3 I21) (zs_3 I21) (congrArg ov_r (rg_3_0 I21)) ?_
          refine ov_cV (as := []) (st := []) (d2 := d - 1) d_89_64 lk_Reader_46 rfl (Nat.le_of_ble_eq_true rfl) (c := 8) (zb_1 I21) (zs_1 I21) ⟨by decide, rfl⟩ (by omega) (c_Tape_clear_1 (d - 1) (by omega) U I21 (ov_kws hw (by decide +kernel))) ?_
          rintro _ z34 h35 ⟨rfl, I36, f33⟩
          show ov_R u d ov_m89 67 [(0, ov_r 3), (1, ov_r 58), (2, ov_r 86), (3, ov_i x3), (4, ov_i x4)] [] z34 h35 (P_Reader_readWalk_3_58_86 F z h)
          have f37 : (h35 1 1) = 0 ∧ (h35 3 2) = (h20 3 2) ∧ (h35 36 7) = (h20 36 7) ∧ (h35 90 2) = (h20 90 2) ∧ (h35 0 10) = (h20 0 10) ∧ (h35 0 11) = (h20 0 11) ∧ (h35 0 12) = (h20 0 12) ∧ (h35 0 13) = (h20 0 13) ∧ (h35 3 1) = (h20 3 1) ∧ (h35 36 8) = (h20 36 8) ∧ (h35 46 3) = (h20 46 3) ∧ (h35 46 4) = (h20 46 4) ∧ (h35 49 4) = (h20 49 4) ∧ (h35 49 5) = (h20 49 5) ∧ (h35 64 0) = (h20 64 0) ∧ (h35 76 0) = (h20 76 0) := f33
          clear f33
          have e38 : h35 3 1 = 58 := by omega
          refine ov_blk (ls2 := [(0, ov_r 3), (1, ov_r 58), (2, ov_r 86), (3, ov_i x3), (4, ov_i x4)]) (st2 := [ov_r 3]) (pc2 := 68) b_89_67_1 rfl rfl ?_
          refine ov_getf (v := ov_i (h35 3 2)) d_89_68 fl_Reader_24 (zb_3 I36) (zs_3 I36) rfl ?_
          have g39 := rg_3_2 I36
          exact ov_reti (st := []) d_89_71 rfl ⟨_, rfl, I36, (by show (h35 1 1) = 0 ∧ (h35 36 7) = (h 36 7) ∧ (h35 90 2) = (h 90 2) ∧ (h35 0 10) = (h 0 10) ∧ (h35 0 11) = (h 0 11) ∧ (h35 0 12) = (h 0 12) ∧ (h35 0 13) = (h 0 13) ∧ (h35 36 8) = (h 36 8) ∧ (h35 46 3) = (h 46 3) ∧ (h35 46 4) = (h 46 4) ∧ (h35 49 4) = (h 49 4) ∧ (h35 49 5) = (h 49 5) ∧ (h35 64 0) = (h 64 0) ∧ (h35 76 0) = (h 76 0); omega)⟩
        · skip
          refine ov_blk (ls2 := [(0, ov_r 3), (1, ov_r 58), (2, ov_r 86), (3, ov_i x3), (4, ov_i x4)]) (st2 := [ov_r 3]) (pc2 := 39) b_89_38_1 rfl rfl ?_
          refine ov_getf (v := ov_r 1) d_89_39 fl_Reader_9 (zb_3 I21) (zs_3 I21) (congrArg ov_r (rg_3_0 I21)) ?_
          refine ov_getf (v := ov_i (h20 1 2)) d_89_42 fl_Reader_37 (zb_1 I21) (zs_1 I21) rfl ?_
          have g40 := rg_1_2 I21
          refine ov_ifeq (tgt := 60) d_89_45 (by decide) (by omega) (fun c41 => ?_) (fun c41 => ?_)
          · skip
            refine ov_blk (ls2 := [(0, ov_r 3), (1, ov_r 58), (2, ov_r 86), (3, ov_i x3), (4, ov_i x4)]) (st2 := [ov_r 3]) (pc2 := 61) b_89_60_1 rfl rfl ?_
            refine ov_getf (v := ov_r 1) d_89_61 fl_Reader_9 (zb_3 I21) (zs_3 I21) (congrArg ov_r (rg_3_0 I21)) ?_
            refine ov_cV (as := []) (st := []) (d2 := d - 1) d_89_64 lk_Reader_46 rfl (Nat.le_of_ble_eq_true rfl) (c := 8) (zb_1 I21) (zs_1 I21) ⟨by decide, rfl⟩ (by omega) (c_Tape_clear_1 (d - 1) (by omega) U I21 (ov_kws hw (by decide +kernel))) ?_
            rintro _ z43 h44 ⟨rfl, I45, f42⟩
            show ov_R u d ov_m89 67 [(0, ov_r 3), (1, ov_r 58), (2, ov_r 86), (3, ov_i x3), (4, ov_i x4)] [] z43 h44 (P_Reader_readWalk_3_58_86 F z h)
            have f46 : (h44 1 1) = 0 ∧ (h44 3 2) = (h20 3 2) ∧ (h44 36 7) = (h20 36 7) ∧ (h44 90 2) = (h20 90 2) ∧ (h44 0 10) = (h20 0 10) ∧ (h44 0 11) = (h20 0 11) ∧ (h44 0 12) = (h20 0 12) ∧ (h44 0 13) = (h20 0 13) ∧ (h44 3 1) = (h20 3 1) ∧ (h44 36 8) = (h20 36 8) ∧ (h44 46 3) = (h20 46 3) ∧ (h44 46 4) = (h20 46 4) ∧ (h44 49 4) = (h20 49 4) ∧ (h44 49 5) = (h20 49 5) ∧ (h44 64 0) = (h20 64 0) ∧ (h44 76 0) = (h20 76 0) := f42
            clear f42
            have e47 : h44 3 1 = 58 := by omega
            refine ov_blk (ls2 := [(0, ov_r 3), (1, ov_r 58), (2, ov_r 86), (3, ov_i x3), (4, ov_i x4)]) (st2 := [ov_r 3]) (pc2 := 68) b_89_67_1 rfl rfl ?_
            refine ov_getf (v := ov_i (h44 3 2)) d_89_68 fl_Reader_24 (zb_3 I45) (zs_3 I45) rfl ?_
            have g48 := rg_3_2 I45
            exact ov_reti (st := []) d_89_71 rfl ⟨_, rfl, I45, (by show (h44 1 1) = 0 ∧ (h44 36 7) = (h 36 7) ∧ (h44 90 2) = (h 90 2) ∧ (h44 0 10) = (h 0 10) ∧ (h44 0 11) = (h 0 11) ∧ (h44 0 12) = (h 0 12) ∧ (h44 0 13) = (h 0 13) ∧ (h44 36 8) = (h 36 8) ∧ (h44 46 3) = (h 46 3) ∧ (h44 46 4) = (h 46 4) ∧ (h44 49 4) = (h 49 4) ∧ (h44 49 5) = (h 49 5) ∧ (h44 64 0) = (h 64 0) ∧ (h44 76 0) = (h 76 0); omega)⟩
          · skip
            refine ov_blk (ls2 := [(0, ov_r 3), (1, ov_r 58), (2, ov_r 86), (3, ov_i x3), (4, ov_i x4)]) (st2 := [ov_r 86, ov_r 3]) (pc2 := 50) b_89_48_2 rfl rfl ?_
            refine ov_cV (as := [ov_r 86]) (st := []) (d2 := d - 1) d_89_50 lk_Reader_50 rfl (Nat.le_of_ble_eq_true rfl) (c := 6) (zb_3 I21) (zs_3 I21) ⟨by decide, rfl⟩ (by omega) (c_Reader_readStep_3_86_k3_1_58 (d - 1) (by omega) U I21 (ov_kws hw (by decide +kernel)) e23) ?_
            rintro _ z51 h52 ⟨v50, rfl, I53, f49⟩
            show ov_R u d ov_m89 53 [(0, ov_r 3), (1, ov_r 58), (2, ov_r 86), (3, ov_i x3), (4, ov_i x4)] [ov_i v50] z51 h52 (P_Reader_readWalk_3_58_86 F z h)
            have f54 : (v50 = 0 ∧ 1 ≤ (h52 3 2) ∨ v50 = 1) ∧ (h52 36 7) = (h20 36 7) ∧ (h52 1 1) = (h20 1 1) ∧ (h52 90 2) = (h20 90 2) ∧ (h52 0 10) = (h20 0 10) ∧ (h52 0 11) = (h20 0 11) ∧ (h52 0 12) = (h20 0 12) ∧ (h52 0 13) = (h20 0 13) ∧ (h52 3 1) = (h20 3 1) ∧ (h52 36 8) = (h20 36 8) ∧ (h52 46 3) = (h20 46 3) ∧ (h52 46 4) = (h20 46 4) ∧ (h52 49 4) = (h20 49 4) ∧ (h52 49 5) = (h20 49 5) ∧ (h52 64 0) = (h20 64 0) ∧ (h52 76 0) = (h20 76 0) := f49
            clear f49
            have e55 : h52 3 1 = 58 := by omega
            refine ov_blk (ls2 := [(0, ov_r 3), (1, ov_r 58), (2, ov_r 86), (3, ov_i v50), (4, ov_i (x4 + 1))]) (st2 := []) (pc2 := 57) b_89_53_2 rfl rfl ?_
            refine ov_goto (tgt := 26) d_89_57 (by decide) ?_
            exact ih16 v50 (x4 + 1) _ _ I53 (by show (v50 = 0 ∨ v50 = 1) ∧ 0 ≤ (x4 + 1) ∧ (x4 + 1) ≤ 1000 ∧ (h52 36 7) = (h 36 7) ∧ (h52 90 2) = (h 90 2) ∧ (h52 0 10) = (h 0 10) ∧ (h52 0 11) = (h 0 11) ∧ (h52 0 12) = (h 0 12) ∧ (h52 0 13) = (h 0 13) ∧ (h52 36 8) = (h 36 8) ∧ (h52 46 3) = (h 46 3) ∧ (h52 46 4) = (h 46 4) ∧ (h52 49 4) = (h 49 4) ∧ (h52 49 5) = (h 49 5) ∧ (h52 64 0) = (h 64 0) ∧ (h52 76 0) = (h 76 0) ∧ (h52 3 1) = 58; omega) (by omega)
  exact L18 1001 1 0 _ _ I12 (by show (1 = 0 ∨ 1 = 1) ∧ 0 ≤ 0 ∧ 0 ≤ 1000 ∧ (h11 36 7) = (h 36 7) ∧ (h11 90 2) = (h 90 2) ∧ (h11 0 10) = (h 0 10) ∧ (h11 0 11) = (h 0 11) ∧ (h11 0 12) = (h 0 12) ∧ (h11 0 13) = (h 0 13) ∧ (h11 36 8) = (h 36 8) ∧ (h11 46 3) = (h 46 3) ∧ (h11 46 4) = (h 46 4) ∧ (h11 49 4) = (h 49 4) ∧ (h11 49 5) = (h 49 5) ∧ (h11 64 0) = (h 64 0) ∧ (h11 76 0) = (h 76 0) ∧ (h11 3 1) = 58; omega) (by omega)
abbrev P_Reader_readTown_3_58 (F : ov_H) (z : ov_Z) (h : ov_H)  : Option ov_V → ov_Z → ov_H → Prop := fun r0 z' h' => ∃ r : Int, r0 = some (ov_i r) ∧ ov_I F z' h' ∧ ((h' 1 1) = 0 ∧ -2147483648 ≤ r ∧ r ≤ 2147483647 ∧ (r = 0 → 0 ≤ (h' 64 0)) ∧ 1 ≤ (h' 58 0) ∧ 1 ≤ (h' 58 1) ∧ (h' 36 7) = (h 36 7) ∧ (h' 90 2) = (h 90 2) ∧ (h' 0 10) = (h 0 10) ∧ (h' 0 11) = (h 0 11) ∧ (h' 0 12) = (h 0 12) ∧ (h' 0 13) = (h 0 13) ∧ (h' 36 8) = (h 36 8) ∧ (h' 46 3) = (h 46 3) ∧ (h' 46 4) = (h 46 4) ∧ (h' 49 4) = (h 49 4) ∧ (h' 49 5) = (h 49 5) ∧ (h' 76 0) = (h 76 0))
set_option maxHeartbeats 4000000 in
theorem c_Reader_readTown_3_58 {u : ov_U} {F : ov_H} {z : ov_Z} {h : ov_H} (d : Nat) (hd : 42 ≤ d) (U : ov_cap u) (I : ov_I F z h) (hw : ov_kw 590007579982553939978 F) : ov_T u d ov_m24 [ov_r 3, ov_r 58] z h (P_Reader_readTown_3_58 F z h) := by
  refine ov_en rfl (Nat.le_of_ble_eq_true rfl) ?_
  show ov_R u d ov_m24 0 [(0, ov_r 3), (1, ov_r 58)] [] z h (P_Reader_readTown_3_58 F z h)
  refine ov_blk (ls2 := [(0, ov_r 3), (1, ov_r 58)]) (st2 := [ov_r 58, ov_r 3]) (pc2 := 2) b_24_0_2 rfl rfl ?_
  refine ov_putf (x := 58) d_24_2 fl_Reader_15 (zb_3 I) (zs_3 I) rfl nk_2 rfl ?_
  have I1 := up_3_1 (x := 58) I (by omega) (hw 3 (by decide +kernel))
  refine ov_blk (ls2 := [(0, ov_r 3), (1, ov_r 58)]) (st2 := [ov_r 3]) (pc2 := 6) b_24_5_1 rfl rfl ?_
  refine ov_getf (v := ov_r 58) d_24_6 fl_Reader_15 (zb_3 I1) (zs_3 I1) rfl ?_
  refine ov_cV (as := []) (st := []) (d2 := d - 1) d_24_9 lk_Reader_19 rfl (Nat.le_of_ble_eq_true rfl) (c := 9) (zb_58 I1) (zs_58 I1) ⟨by decide, rfl⟩ (by omega) (c_Town_clear_58 (d - 1) (by omega) U I1 (ov_kws hw (by decide +kernel))) ?_
  rintro _ z3 h4 ⟨rfl, I5, f2⟩
  show ov_R u d ov_m24 12 [(0, ov_r 3), (1, ov_r 58)] [] z3 h4 (P_Reader_readTown_3_58 F z h)
  have f6 : 1 ≤ (h4 58 0) ∧ 1 ≤ (h4 58 1) ∧ (h4 36 7) = (h 36 7) ∧ (h4 1 1) = (h 1 1) ∧ (h4 90 2) = (h 90 2) ∧ (h4 0 10) = (h 0 10) ∧ (h4 0 11) = (h 0 11) ∧ (h4 0 12) = (h 0 12) ∧ (h4 0 13) = (h 0 13) ∧ (h4 3 1) = 58 ∧ (h4 36 8) = (h 36 8) ∧ (h4 46 3) = (h 46 3) ∧ (h4 46 4) = (h 46 4) ∧ (h4 49 4) = (h 49 4) ∧ (h4 49 5) = (h 49 5) ∧ (h4 76 0) = (h 76 0) := f2
  clear f2
  have e7 : h4 3 1 = 58 := by omega
  have I8 := ov_I_fu (T := 58) I5 (by omega)
  refine ov_blk (ls2 := [(0, ov_r 3), (1, ov_r 58)]) (st2 := [ov_i 0, ov_r 3]) (pc2 := 14) b_24_12_2 rfl rfl ?_
  refine ov_putf (x := 0) d_24_14 fl_Reader_24 (zb_3 I8) (zs_3 I8) rfl nk_0 rfl ?_
  have I9 := up_3_2 (x := 0) I8 (by omega) ((ov_kwu hw) 3 (by decide +kernel))
  refine ov_blk (ls2 := [(0, ov_r 3), (1, ov_r 58)]) (st2 := [ov_r 3]) (pc2 := 18) b_24_17_1 rfl rfl ?_
  refine ov_getf (v := ov_r 1) d_24_18 fl_Reader_9 (zb_3 I9) (zs_3 I9) (congrArg ov_r (rg_3_0 I9)) ?_
  refine ov_cV (as := []) (st := []) (d2 := d - 1) d_24_21 lk_Reader_28 rfl (Nat.le_of_ble_eq_true rfl) (c := 8) (zb_1 I9) (zs_1 I9) ⟨by decide, rfl⟩ (by omega) (c_Tape_begin_1 (d - 1) (by omega) U I9 (ov_kws (ov_kwu hw) (by decide +kernel))) ?_
  rintro _ z11 h12 ⟨rfl, I13, f10⟩
  show ov_R u d ov_m24 24 [(0, ov_r 3), (1, ov_r 58)] [] z11 h12 (P_Reader_readTown_3_58 F z h)
  have f14 : (h12 3 3) = (h4 3 3) ∧ (h12 36 7) = (h4 36 7) ∧ (h12 1 1) = (h4 1 1) ∧ (h12 90 2) = (h4 90 2) ∧ (h12 0 10) = (h4 0 10) ∧ (h12 0 11) = (h4 0 11) ∧ (h12 0 12) = (h4 0 12) ∧ (h12 0 13) = (h4 0 13) ∧ (h12 3 1) = (h4 3 1) ∧ (h12 36 8) = (h4 36 8) ∧ (h12 46 3) = (h4 46 3) ∧ (h12 46 4) = (h4 46 4) ∧ (h12 49 4) = (h4 49 4) ∧ (h12 49 5) = (h4 49 5) ∧ (h12 64 0) = (h4 64 0) ∧ (h12 76 0) = (h4 76 0) := f10
  clear f10
  have e15 : h12 3 1 = 58 := by omega
  refine ov_blk (ls2 := [(0, ov_r 3), (1, ov_r 58)]) (st2 := [ov_r 3]) (pc2 := 25) b_24_24_1 rfl rfl ?_
  refine ov_cV (as := []) (st := []) (d2 := d - 1) d_24_25 lk_Reader_33 rfl (Nat.le_of_ble_eq_true rfl) (c := 6) (zb_3 I13) (zs_3 I13) ⟨by decide, rfl⟩ (by omega) (c_Reader_readSize_3_k3_1_58 (d - 1) (by omega) U I13 (ov_kws (ov_kwu hw) (by decide +kernel)) e15) ?_
  rintro _ z18 h19 ⟨v17, rfl, I20, f16⟩
  show ov_R u d ov_m24 28 [(0, ov_r 3), (1, ov_r 58)] [ov_i v17] z18 h19 (P_Reader_readTown_3_58 F z h)
  have f21 : (v17 = 0 ∧ 1 ≤ (h19 3 2) ∨ v17 = 1) ∧ (h19 36 7) = (h12 36 7) ∧ (h19 1 1) = (h12 1 1) ∧ (h19 90 2) = (h12 90 2) ∧ (h19 0 10) = (h12 0 10) ∧ (h19 0 11) = (h12 0 11) ∧ (h19 0 12) = (h12 0 12) ∧ (h19 0 13) = (h12 0 13) ∧ (h19 3 1) = (h12 3 1) ∧ (h19 36 8) = (h12 36 8) ∧ (h19 46 3) = (h12 46 3) ∧ (h19 46 4) = (h12 46 4) ∧ (h19 49 4) = (h12 49 4) ∧ (h19 49 5) = (h12 49 5) ∧ (h19 64 0) = (h12 64 0) ∧ (h19 76 0) = (h12 76 0) := f16
  clear f16
  have e22 : h19 3 1 = 58 := by omega
  refine ov_blk (ls2 := [(0, ov_r 3), (1, ov_r 58), (2, ov_i v17), (3, ov_i 0)]) (st2 := []) (pc2 := 31) b_24_28_3 rfl rfl ?_
  have L26 : ∀ (n23 : Nat) (x2 : Int) (x3 : Int) (z27 : ov_Z) (h28 : ov_H) (I29 : ov_I (ov_up F (-5) 58 1) z27 h28) (q25 : (x2 = 0 ∧ 1 ≤ (h28 3 2) ∨ x2 = 1) ∧ 0 ≤ x3 ∧ x3 ≤ 1000 ∧ (h28 36 7) = (h 36 7) ∧ (h28 90 2) = (h 90 2) ∧ (h28 0 10) = (h 0 10) ∧ (h28 0 11) = (h 0 11) ∧ (h28 0 12) = (h 0 12) ∧ (h28 0 13) = (h 0 13) ∧ (h28 36 8) = (h 36 8) ∧ (h28 46 3) = (h 46 3) ∧ (h28 46 4) = (h 46 4) ∧ (h28 49 4) = (h 49 4) ∧ (h28 49 5) = (h 49 5) ∧ (h28 76 0) = (h 76 0) ∧ h28 3 1 = 58), 1000 - x3 < (n23 : Int) → ov_R u d ov_m24 31 [(0, ov_r 3), (1, ov_r 58), (2, ov_i x2), (3, ov_i x3)] [] z27 h28 (P_Reader_readTown_3_58 F z h) := by
    intro n23
    induction n23 with
    | zero =>
      intro x2 x3 z27 h28 I29 q25 hn30
      exact absurd hn30 (by omega)
    | succ n23 ih24 =>
      intro x2 x3 z27 h28 I29 q25 hn30
      have e31 : h28 3 1 = 58 := by omega
      refine ov_blk (ls2 := [(0, ov_r 3), (1, ov_r 58), (2, ov_i x2), (3, ov_i x3)]) (st2 := [ov_i 1000, ov_i x3]) (pc2 := 35) b_24_31_2 rfl rfl ?_
      refine ov_icge (tgt := 63) d_24_35 (by decide) (by omega) (by omega) (fun c32 => ?_) (fun c32 => ?_)
      · skip
        refine ov_blk (ls2 := [(0, ov_r 3), (1, ov_r 58), (2, ov_i x2), (3, ov_i x3)]) (st2 := [ov_i x2]) (pc2 := 64) b_24_63_1 rfl rfl ?_
        refine ov_ifeq (tgt := 74) d_24_64 (by decide) (by omega) (fun c33 => ?_) (fun c33 => ?_)
        · skip
          refine ov_blk (ls2 := [(0, ov_r 3), (1, ov_r 58), (2, ov_i x2), (3, ov_i x3)]) (st2 := [ov_r 3]) (pc2 := 75) b_24_74_1 rfl rfl ?_
          refine ov_getf (v := ov_r 1) d_24_75 fl_Reader_9 (zb_3 I29) (zs_3 I29) (congrArg ov_r (rg_3_0 I29)) ?_
          refine ov_cV (as := []) (st := []) (d2 := d - 1) d_24_78 lk_Reader_46 rfl (Nat.le_of_ble_eq_true rfl) (c := 8) (zb_1 I29) (zs_1 I29) ⟨by decide, rfl⟩ (by omega) (c_Tape_clear_1 (d - 1) (by omega) U I29 (ov_kws (ov_kwu hw) (by decide +kernel))) ?_
          rintro _ z35 h36 ⟨rfl, I37, f34⟩
          show ov_R u d ov_m24 81 [(0, ov_r 3), (1, ov_r 58), (2, ov_i x2), (3, ov_i x3)] [] z35 h36 (P_Reader_readTown_3_58 F z h)
          have f38 : (h36 1 1) = 0 ∧ (h36 3 2) = (h28 3 2) ∧ (h36 36 7) = (h28 36 7) ∧ (h36 90 2) = (h28 90 2) ∧ (h36 0 10) = (h28 0 10) ∧ (h36 0 11) = (h28 0 11) ∧ (h36 0 12) = (h28 0 12) ∧ (h36 0 13) = (h28 0 13) ∧ (h36 3 1) = (h28 3 1) ∧ (h36 36 8) = (h28 36 8) ∧ (h36 46 3) = (h28 46 3) ∧ (h36 46 4) = (h28 46 4) ∧ (h36 49 4) = (h28 49 4) ∧ (h36 49 5) = (h28 49 5) ∧ (h36 64 0) = (h28 64 0) ∧ (h36 76 0) = (h28 76 0) := f34
          clear f34
          have e39 : h36 3 1 = 58 := by omega
          refine ov_blk (ls2 := [(0, ov_r 3), (1, ov_r 58), (2, ov_i x2), (3, ov_i x3)]) (st2 := [ov_r 3]) (pc2 := 82) b_24_81_1 rfl rfl ?_
          refine ov_getf (v := ov_i (h36 3 2)) d_24_82 fl_Reader_24 (zb_3 I37) (zs_3 I37) rfl ?_
          have g40 := rg_3_2 I37
          have gf41 : 1 ≤ (h36 58 0) ∧ 1 ≤ (h36 58 1) := ov_I_fg (h := h36) (T := 58) (by omega) I37
          exact ov_reti (st := []) d_24_85 rfl ⟨_, rfl, (ov_I_fd I37), (by show (h36 1 1) = 0 ∧ -2147483648 ≤ (h36 3 2) ∧ (h36 3 2) ≤ 2147483647 ∧ ((h36 3 2) = 0 → 0 ≤ (h36 64 0)) ∧ 1 ≤ (h36 58 0) ∧ 1 ≤ (h36 58 1) ∧ (h36 36 7) = (h 36 7) ∧ (h36 90 2) = (h 90 2) ∧ (h36 0 10) = (h 0 10) ∧ (h36 0 11) = (h 0 11) ∧ (h36 0 12) = (h 0 12) ∧ (h36 0 13) = (h 0 13) ∧ (h36 36 8) = (h 36 8) ∧ (h36 46 3) = (h 46 3) ∧ (h36 46 4) = (h 46 4) ∧ (h36 49 4) = (h 49 4) ∧ (h36 49 5) = (h 49 5) ∧ (h36 76 0) = (h 76 0); omega)⟩
        · skip
          refine ov_blk (ls2 := [(0, ov_r 3), (1, ov_r 58), (2, ov_i x2), (3, ov_i x3)]) (st2 := [ov_r 3]) (pc2 := 68) b_24_67_1 rfl rfl ?_
          refine ov_getf (v := ov_r 58) d_24_68 fl_Reader_15 (zb_3 I29) (zs_3 I29) (congrArg ov_r e31) ?_
          refine ov_cV (as := []) (st := []) (d2 := d - 1) d_24_71 lk_Reader_43 rfl (Nat.le_of_ble_eq_true rfl) (c := 9) (zb_58 I29) (zs_58 I29) ⟨by decide, rfl⟩ (by omega) (c_Town_complete_58 (d - 1) (by omega) U I29 (ov_kws (ov_kwu hw) (by decide +kernel))) ?_
          rintro _ z43 h44 ⟨rfl, I45, f42⟩
          show ov_R u d ov_m24 74 [(0, ov_r 3), (1, ov_r 58), (2, ov_i x2), (3, ov_i x3)] [] z43 h44 (P_Reader_readTown_3_58 F z h)
          have f46 : 0 ≤ (h44 64 0) ∧ (h44 36 7) = (h28 36 7) ∧ (h44 1 1) = (h28 1 1) ∧ (h44 90 2) = (h28 90 2) ∧ (h44 0 10) = (h28 0 10) ∧ (h44 0 11) = (h28 0 11) ∧ (h44 0 12) = (h28 0 12) ∧ (h44 0 13) = (h28 0 13) ∧ (h44 3 1) = (h28 3 1) ∧ (h44 36 8) = (h28 36 8) ∧ (h44 46 3) = (h28 46 3) ∧ (h44 46 4) = (h28 46 4) ∧ (h44 49 4) = (h28 49 4) ∧ (h44 49 5) = (h28 49 5) ∧ (h44 76 0) = (h28 76 0) := f42
          clear f42
          have e47 : h44 3 1 = 58 := by omega
          refine ov_blk (ls2 := [(0, ov_r 3), (1, ov_r 58), (2, ov_i x2), (3, ov_i x3)]) (st2 := [ov_r 3]) (pc2 := 75) b_24_74_1 rfl rfl ?_
          refine ov_getf (v := ov_r 1) d_24_75 fl_Reader_9 (zb_3 I45) (zs_3 I45) (congrArg ov_r (rg_3_0 I45)) ?_
          refine ov_cV (as := []) (st := []) (d2 := d - 1) d_24_78 lk_Reader_46 rfl (Nat.le_of_ble_eq_true rfl) (c := 8) (zb_1 I45) (zs_1 I45) ⟨by decide, rfl⟩ (by omega) (c_Tape_clear_1 (d - 1) (by omega) U I45 (ov_kws (ov_kwu hw) (by decide +kernel))) ?_
          rintro _ z49 h50 ⟨rfl, I51, f48⟩
          show ov_R u d ov_m24 81 [(0, ov_r 3), (1, ov_r 58), (2, ov_i x2), (3, ov_i x3)] [] z49 h50 (P_Reader_readTown_3_58 F z h)
          have f52 : (h50 1 1) = 0 ∧ (h50 3 2) = (h44 3 2) ∧ (h50 36 7) = (h44 36 7) ∧ (h50 90 2) = (h44 90 2) ∧ (h50 0 10) = (h44 0 10) ∧ (h50 0 11) = (h44 0 11) ∧ (h50 0 12) = (h44 0 12) ∧ (h50 0 13) = (h44 0 13) ∧ (h50 3 1) = (h44 3 1) ∧ (h50 36 8) = (h44 36 8) ∧ (h50 46 3) = (h44 46 3) ∧ (h50 46 4) = (h44 46 4) ∧ (h50 49 4) = (h44 49 4) ∧ (h50 49 5) = (h44 49 5) ∧ (h50 64 0) = (h44 64 0) ∧ (h50 76 0) = (h44 76 0) := f48
          clear f48
          have e53 : h50 3 1 = 58 := by omega
          refine ov_blk (ls2 := [(0, ov_r 3), (1, ov_r 58), (2, ov_i x2), (3, ov_i x3)]) (st2 := [ov_r 3]) (pc2 := 82) b_24_81_1 rfl rfl ?_
          refine ov_getf (v := ov_i (h50 3 2)) d_24_82 fl_Reader_24 (zb_3 I51) (zs_3 I51) rfl ?_
          have g54 := rg_3_2 I51
          have gf55 : 1 ≤ (h50 58 0) ∧ 1 ≤ (h50 58 1) := ov_I_fg (h := h50) (T := 58) (by omega) I51
          exact ov_reti (st := []) d_24_85 rfl ⟨_, rfl, (ov_I_fd I51), (by show (h50 1 1) = 0 ∧ -2147483648 ≤ (h50 3 2) ∧ (h50 3 2) ≤ 2147483647 ∧ ((h50 3 2) = 0 → 0 ≤ (h50 64 0)) ∧ 1 ≤ (h50 58 0) ∧ 1 ≤ (h50 58 1) ∧ (h50 36 7) = (h 36 7) ∧ (h50 90 2) = (h 90 2) ∧ (h50 0 10) = (h 0 10) ∧ (h50 0 11) = (h 0 11) ∧ (h50 0 12) = (h 0 12) ∧ (h50 0 13) = (h 0 13) ∧ (h50 36 8) = (h 36 8) ∧ (h50 46 3) = (h 46 3) ∧ (h50 46 4) = (h 46 4) ∧ (h50 49 4) = (h 49 4) ∧ (h50 49 5) = (h 49 5) ∧ (h50 76 0) = (h 76 0); omega)⟩
      · skip
        refine ov_blk (ls2 := [(0, ov_r 3), (1, ov_r 58), (2, ov_i x2), (3, ov_i x3)]) (st2 := [ov_i x2]) (pc2 := 39) b_24_38_1 rfl rfl ?_
        refine ov_ifeq (tgt := 63) d_24_39 (by decide) (by omega) (fun c56 => ?_) (fun c56 => ?_)
        · skip
          refine ov_blk (ls2 := [(0, ov_r 3), (1, ov_r 58), (2, ov_i x2), (3, ov_i x3)]) (st2 := [ov_i x2]) (pc2 := 64) b_24_63_1 rfl rfl ?_
          refine ov_ifeq (tgt := 74) d_24_64 (by decide) (by omega) (fun c57 => ?_) (fun c57 => ?_)
          · skip
            refine ov_blk (ls2 := [(0, ov_r 3), (1, ov_r 58), (2, ov_i x2), (3, ov_i x3)]) (st2 := [ov_r 3]) (pc2 := 75) b_24_74_1 rfl rfl ?_
            refine ov_getf (v := ov_r 1) d_24_75 fl_Reader_9 (zb_3 I29) (zs_3 I29) (congrArg ov_r (rg_3_0 I29)) ?_
            refine ov_cV (as := []) (st := []) (d2 := d - 1) d_24_78 lk_Reader_46 rfl (Nat.le_of_ble_eq_true rfl) (c := 8) (zb_1 I29) (zs_1 I29) ⟨by decide, rfl⟩ (by omega) (c_Tape_clear_1 (d - 1) (by omega) U I29 (ov_kws (ov_kwu hw) (by decide +kernel))) ?_
            rintro _ z59 h60 ⟨rfl, I61, f58⟩
            show ov_R u d ov_m24 81 [(0, ov_r 3), (1, ov_r 58), (2, ov_i x2), (3, ov_i x3)] [] z59 h60 (P_Reader_readTown_3_58 F z h)
            have f62 : (h60 1 1) = 0 ∧ (h60 3 2) = (h28 3 2) ∧ (h60 36 7) = (h28 36 7) ∧ (h60 90 2) = (h28 90 2) ∧ (h60 0 10) = (h28 0 10) ∧ (h60 0 11) = (h28 0 11) ∧ (h60 0 12) = (h28 0 12) ∧ (h60 0 13) = (h28 0 13) ∧ (h60 3 1) = (h28 3 1) ∧ (h60 36 8) = (h28 36 8) ∧ (h60 46 3) = (h28 46 3) ∧ (h60 46 4) = (h28 46 4) ∧ (h60 49 4) = (h28 49 4) ∧ (h60 49 5) = (h28 49 5) ∧ (h60 64 0) = (h28 64 0) ∧ (h60 76 0) = (h28 76 0) := f58
            clear f58
            have e63 : h60 3 1 = 58 := by omega
            refine ov_blk (ls2 := [(0, ov_r 3), (1, ov_r 58), (2, ov_i x2), (3, ov_i x3)]) (st2 := [ov_r 3]) (pc2 := 82) b_24_81_1 rfl rfl ?_
            refine ov_getf (v := ov_i (h60 3 2)) d_24_82 fl_Reader_24 (zb_3 I61) (zs_3 I61) rfl ?_
            have g64 := rg_3_2 I61
            have gf65 : 1 ≤ (h60 58 0) ∧ 1 ≤ (h60 58 1) := ov_I_fg (h := h60) (T := 58) (by omega) I61
            exact ov_reti (st := []) d_24_85 rfl ⟨_, rfl, (ov_I_fd I61), (by show (h60 1 1) = 0 ∧ -2147483648 ≤ (h60 3 2) ∧ (h60 3 2) ≤ 2147483647 ∧ ((h60 3 2) = 0 → 0 ≤ (h60 64 0)) ∧ 1 ≤ (h60 58 0) ∧ 1 ≤ (h60 58 1) ∧ (h60 36 7) = (h 36 7) ∧ (h60 90 2) = (h 90 2) ∧ (h60 0 10) = (h 0 10) ∧ (h60 0 11) = (h 0 11) ∧ (h60 0 12) = (h 0 12) ∧ (h60 0 13) = (h 0 13) ∧ (h60 36 8) = (h 36 8) ∧ (h60 46 3) = (h 46 3) ∧ (h60 46 4) = (h 46 4) ∧ (h60 49 4) = (h 49 4) ∧ (h60 49 5) = (h 49 5) ∧ (h60 76 0) = (h 76 0); omega)⟩
          · skip
            refine ov_blk (ls2 := [(0, ov_r 3), (1, ov_r 58), (2, ov_i x2), (3, ov_i x3)]) (st2 := [ov_r 3]) (pc2 := 68) b_24_67_1 rfl rfl ?_
            refine ov_getf (v := ov_r 58) d_24_68 fl_Reader_15 (zb_3 I29) (zs_3 I29) (congrArg ov_r e31) ?_
            refine ov_cV (as := []) (st := []) (d2 := d - 1) d_24_71 lk_Reader_43 rfl (Nat.le_of_ble_eq_true rfl) (c := 9) (zb_58 I29) (zs_58 I29) ⟨by decide, rfl⟩ (by omega) (c_Town_complete_58 (d - 1) (by omega) U I29 (ov_kws (ov_kwu hw) (by decide +kernel))) ?_
            rintro _ z67 h68 ⟨rfl, I69, f66⟩
            show ov_R u d ov_m24 74 [(0, ov_r 3), (1, ov_r 58), (2, ov_i x2), (3, ov_i x3)] [] z67 h68 (P_Reader_readTown_3_58 F z h)
            have f70 : 0 ≤ (h68 64 0) ∧ (h68 36 7) = (h28 36 7) ∧ (h68 1 1) = (h28 1 1) ∧ (h68 90 2) = (h28 90 2) ∧ (h68 0 10) = (h28 0 10) ∧ (h68 0 11) = (h28 0 11) ∧ (h68 0 12) = (h28 0 12) ∧ (h68 0 13) = (h28 0 13) ∧ (h68 3 1) = (h28 3 1) ∧ (h68 36 8) = (h28 36 8) ∧ (h68 46 3) = (h28 46 3) ∧ (h68 46 4) = (h28 46 4) ∧ (h68 49 4) = (h28 49 4) ∧ (h68 49 5) = (h28 49 5) ∧ (h68 76 0) = (h28 76 0) := f66
            clear f66
            have e71 : h68 3 1 = 58 := by omega
            refine ov_blk (ls2 := [(0, ov_r 3), (1, ov_r 58), (2, ov_i x2), (3, ov_i x3)]) (st2 := [ov_r 3]) (pc2 := 75) b_24_74_1 rfl rfl ?_
            refine ov_getf (v := ov_r 1) d_24_75 fl_Reader_9 (zb_3 I69) (zs_3 I69) (congrArg ov_r (rg_3_0 I69)) ?_
            refine ov_cV (as := []) (st := []) (d2 := d - 1) d_24_78 lk_Reader_46 rfl (Nat.le_of_ble_eq_true rfl) (c := 8) (zb_1 I69) (zs_1 I69) ⟨by decide, rfl⟩ (by omega) (c_Tape_clear_1 (d - 1) (by omega) U I69 (ov_kws (ov_kwu hw) (by decide +kernel))) ?_
            rintro _ z73 h74 ⟨rfl, I75, f72⟩
            show ov_R u d ov_m24 81 [(0, ov_r 3), (1, ov_r 58), (2, ov_i x2), (3, ov_i x3)] [] z73 h74 (P_Reader_readTown_3_58 F z h)
            have f76 : (h74 1 1) = 0 ∧ (h74 3 2) = (h68 3 2) ∧ (h74 36 7) = (h68 36 7) ∧ (h74 90 2) = (h68 90 2) ∧ (h74 0 10) = (h68 0 10) ∧ (h74 0 11) = (h68 0 11) ∧ (h74 0 12) = (h68 0 12) ∧ (h74 0 13) = (h68 0 13) ∧ (h74 3 1) = (h68 3 1) ∧ (h74 36 8) = (h68 36 8) ∧ (h74 46 3) = (h68 46 3) ∧ (h74 46 4) = (h68 46 4) ∧ (h74 49 4) = (h68 49 4) ∧ (h74 49 5) = (h68 49 5) ∧ (h74 64 0) = (h68 64 0) ∧ (h74 76 0) = (h68 76 0) := f72
            clear f72
            have e77 : h74 3 1 = 58 := by omega
            refine ov_blk (ls2 := [(0, ov_r 3), (1, ov_r 58), (2, ov_i x2), (3, ov_i x3)]) (st2 := [ov_r 3]) (pc2 := 82) b_24_81_1 rfl rfl ?_
            refine ov_getf (v := ov_i (h74 3 2)) d_24_82 fl_Reader_24 (zb_3 I75) (zs_3 I75) rfl ?_
            have g78 := rg_3_2 I75
            have gf79 : 1 ≤ (h74 58 0) ∧ 1 ≤ (h74 58 1) := ov_I_fg (h := h74) (T := 58) (by omega) I75
            exact ov_reti (st := []) d_24_85 rfl ⟨_, rfl, (ov_I_fd I75), (by show (h74 1 1) = 0 ∧ -2147483648 ≤ (h74 3 2) ∧ (h74 3 2) ≤ 2147483647 ∧ ((h74 3 2) = 0 → 0 ≤ (h74 64 0)) ∧ 1 ≤ (h74 58 0) ∧ 1 ≤ (h74 58 1) ∧ (h74 36 7) = (h 36 7) ∧ (h74 90 2) = (h 90 2) ∧ (h74 0 10) = (h 0 10) ∧ (h74 0 11) = (h 0 11) ∧ (h74 0 12) = (h 0 12) ∧ (h74 0 13) = (h 0 13) ∧ (h74 36 8) = (h 36 8) ∧ (h74 46 3) = (h 46 3) ∧ (h74 46 4) = (h 46 4) ∧ (h74 49 4) = (h 49 4) ∧ (h74 49 5) = (h 49 5) ∧ (h74 76 0) = (h 76 0); omega)⟩
        · skip
          refine ov_blk (ls2 := [(0, ov_r 3), (1, ov_r 58), (2, ov_i x2), (3, ov_i x3)]) (st2 := [ov_r 3]) (pc2 := 43) b_24_42_1 rfl rfl ?_
          refine ov_getf (v := ov_r 1) d_24_43 fl_Reader_9 (zb_3 I29) (zs_3 I29) (congrArg ov_r (rg_3_0 I29)) ?_
          refine ov_getf (v := ov_i (h28 1 2)) d_24_46 fl_Reader_37 (zb_1 I29) (zs_1 I29) rfl ?_
          have g80 := rg_1_2 I29
          refine ov_ifeq (tgt := 63) d_24_49 (by decide) (by omega) (fun c81 => ?_) (fun c81 => ?_)
          · skip
            refine ov_blk (ls2 := [(0, ov_r 3), (1, ov_r 58), (2, ov_i x2), (3, ov_i x3)]) (st2 := [ov_i x2]) (pc2 := 64) b_24_63_1 rfl rfl ?_
            refine ov_ifeq (tgt := 74) d_24_64 (by decide) (by omega) (fun c82 => ?_) (fun c82 => ?_)
            · skip
              refine ov_blk (ls2 := [(0, ov_r 3), (1, ov_r 58), (2, ov_i x2), (3, ov_i x3)]) (st2 := [ov_r 3]) (pc2 := 75) b_24_74_1 rfl rfl ?_
              refine ov_getf (v := ov_r 1) d_24_75 fl_Reader_9 (zb_3 I29) (zs_3 I29) (congrArg ov_r (rg_3_0 I29)) ?_
              refine ov_cV (as := []) (st := []) (d2 := d - 1) d_24_78 lk_Reader_46 rfl (Nat.le_of_ble_eq_true rfl) (c := 8) (zb_1 I29) (zs_1 I29) ⟨by decide, rfl⟩ (by omega) (c_Tape_clear_1 (d - 1) (by omega) U I29 (ov_kws (ov_kwu hw) (by decide +kernel))) ?_
              rintro _ z84 h85 ⟨rfl, I86, f83⟩
              show ov_R u d ov_m24 81 [(0, ov_r 3), (1, ov_r 58), (2, ov_i x2), (3, ov_i x3)] [] z84 h85 (P_Reader_readTown_3_58 F z h)
              have f87 : (h85 1 1) = 0 ∧ (h85 3 2) = (h28 3 2) ∧ (h85 36 7) = (h28 36 7) ∧ (h85 90 2) = (h28 90 2) ∧ (h85 0 10) = (h28 0 10) ∧ (h85 0 11) = (h28 0 11) ∧ (h85 0 12) = (h28 0 12) ∧ (h85 0 13) = (h28 0 13) ∧ (h85 3 1) = (h28 3 1) ∧ (h85 36 8) = (h28 36 8) ∧ (h85 46 3) = (h28 46 3) ∧ (h85 46 4) = (h28 46 4) ∧ (h85 49 4) = (h28 49 4) ∧ (h85 49 5) = (h28 49 5) ∧ (h85 64 0) = (h28 64 0) ∧ (h85 76 0) = (h28 76 0) := f83
              clear f83
              have e88 : h85 3 1 = 58 := by omega
              refine ov_blk (ls2 := [(0, ov_r 3), (1, ov_r 58), (2, ov_i x2), (3, ov_i x3)]) (st2 := [ov_r 3]) (pc2 := 82) b_24_81_1 rfl rfl ?_
              refine ov_getf (v := ov_i (h85 3 2)) d_24_82 fl_Reader_24 (zb_3 I86) (zs_3 I86) rfl ?_
              have g89 := rg_3_2 I86
              have gf90 : 1 ≤ (h85 58 0) ∧ 1 ≤ (h85 58 1) := ov_I_fg (h := h85) (T := 58) (by omega) I86
              exact ov_reti (st := []) d_24_85 rfl ⟨_, rfl, (ov_I_fd I86), (by show (h85 1 1) = 0 ∧ -2147483648 ≤ (h85 3 2) ∧ (h85 3 2) ≤ 2147483647 ∧ ((h85 3 2) = 0 → 0 ≤ (h85 64 0)) ∧ 1 ≤ (h85 58 0) ∧ 1 ≤ (h85 58 1) ∧ (h85 36 7) = (h 36 7) ∧ (h85 90 2) = (h 90 2) ∧ (h85 0 10) = (h 0 10) ∧ (h85 0 11) = (h 0 11) ∧ (h85 0 12) = (h 0 12) ∧ (h85 0 13) = (h 0 13) ∧ (h85 36 8) = (h 36 8) ∧ (h85 46 3) = (h 46 3) ∧ (h85 46 4) = (h 46 4) ∧ (h85 49 4) = (h 49 4) ∧ (h85 49 5) = (h 49 5) ∧ (h85 76 0) = (h 76 0); omega)⟩
            · skip
              refine ov_blk (ls2 := [(0, ov_r 3), (1, ov_r 58), (2, ov_i x2), (3, ov_i x3)]) (st2 := [ov_r 3]) (pc2 := 68) b_24_67_1 rfl rfl ?_
              refine ov_getf (v := ov_r 58) d_24_68 fl_Reader_15 (zb_3 I29) (zs_3 I29) (congrArg ov_r e31) ?_
              refine ov_cV (as := []) (st := []) (d2 := d - 1) d_24_71 lk_Reader_43 rfl (Nat.le_of_ble_eq_true rfl) (c := 9) (zb_58 I29) (zs_58 I29) ⟨by decide, rfl⟩ (by omega) (c_Town_complete_58 (d - 1) (by omega) U I29 (ov_kws (ov_kwu hw) (by decide +kernel))) ?_
              rintro _ z92 h93 ⟨rfl, I94, f91⟩
              show ov_R u d ov_m24 74 [(0, ov_r 3), (1, ov_r 58), (2, ov_i x2), (3, ov_i x3)] [] z92 h93 (P_Reader_readTown_3_58 F z h)
              have f95 : 0 ≤ (h93 64 0) ∧ (h93 36 7) = (h28 36 7) ∧ (h93 1 1) = (h28 1 1) ∧ (h93 90 2) = (h28 90 2) ∧ (h93 0 10) = (h28 0 10) ∧ (h93 0 11) = (h28 0 11) ∧ (h93 0 12) = (h28 0 12) ∧ (h93 0 13) = (h28 0 13) ∧ (h93 3 1) = (h28 3 1) ∧ (h93 36 8) = (h28 36 8) ∧ (h93 46 3) = (h28 46 3) ∧ (h93 46 4) = (h28 46 4) ∧ (h93 49 4) = (h28 49 4) ∧ (h93 49 5) = (h28 49 5) ∧ (h93 76 0) = (h28 76 0) := f91
              clear f91
              have e96 : h93 3 1 = 58 := by omega
              refine ov_blk (ls2 := [(0, ov_r 3), (1, ov_r 58), (2, ov_i x2), (3, ov_i x3)]) (st2 := [ov_r 3]) (pc2 := 75) b_24_74_1 rfl rfl ?_
              refine ov_getf (v := ov_r 1) d_24_75 fl_Reader_9 (zb_3 I94) (zs_3 I94) (congrArg ov_r (rg_3_0 I94)) ?_
              refine ov_cV (as := []) (st := []) (d2 := d - 1) d_24_78 lk_Reader_46 rfl (Nat.le_of_ble_eq_true rfl) (c := 8) (zb_1 I94) (zs_1 I94) ⟨by decide, rfl⟩ (by omega) (c_Tape_clear_1 (d - 1) (by omega) U I94 (ov_kws (ov_kwu hw) (by decide +kernel))) ?_
              rintro _ z98 h99 ⟨rfl, I100, f97⟩
              show ov_R u d ov_m24 81 [(0, ov_r 3), (1, ov_r 58), (2, ov_i x2), (3, ov_i x3)] [] z98 h99 (P_Reader_readTown_3_58 F z h)
              have f101 : (h99 1 1) = 0 ∧ (h99 3 2) = (h93 3 2) ∧ (h99 36 7) = (h93 36 7) ∧ (h99 90 2) = (h93 90 2) ∧ (h99 0 10) = (h93 0 10) ∧ (h99 0 11) = (h93 0 11) ∧ (h99 0 12) = (h93 0 12) ∧ (h99 0 13) = (h93 0 13) ∧ (h99 3 1) = (h93 3 1) ∧ (h99 36 8) = (h93 36 8) ∧ (h99 46 3) = (h93 46 3) ∧ (h99 46 4) = (h93 46 4) ∧ (h99 49 4) = (h93 49 4) ∧ (h99 49 5) = (h93 49 5) ∧ (h99 64 0) = (h93 64 0) ∧ (h99 76 0) = (h93 76 0) := f97
              clear f97
              have e102 : h99 3 1 = 58 := by omega
              refine ov_blk (ls2 := [(0, ov_r 3), (1, ov_r 58), (2, ov_i x2), (3, ov_i x3)]) (st2 := [ov_r 3]) (pc2 := 82) b_24_81_1 rfl rfl ?_
              refine ov_getf (v := ov_i (h99 3 2)) d_24_82 fl_Reader_24 (zb_3 I100) (zs_3 I100) rfl ?_
              have g103 := rg_3_2 I100
              have gf104 : 1 ≤ (h99 58 0) ∧ 1 ≤ (h99 58 1) := ov_I_fg (h := h99) (T := 58) (by omega) I100
              exact ov_reti (st := []) d_24_85 rfl ⟨_, rfl, (ov_I_fd I100), (by show (h99 1 1) = 0 ∧ -2147483648 ≤ (h99 3 2) ∧ (h99 3 2) ≤ 2147483647 ∧ ((h99 3 2) = 0 → 0 ≤ (h99 64 0)) ∧ 1 ≤ (h99 58 0) ∧ 1 ≤ (h99 58 1) ∧ (h99 36 7) = (h 36 7) ∧ (h99 90 2) = (h 90 2) ∧ (h99 0 10) = (h 0 10) ∧ (h99 0 11) = (h 0 11) ∧ (h99 0 12) = (h 0 12) ∧ (h99 0 13) = (h 0 13) ∧ (h99 36 8) = (h 36 8) ∧ (h99 46 3) = (h 46 3) ∧ (h99 46 4) = (h 46 4) ∧ (h99 49 4) = (h 49 4) ∧ (h99 49 5) = (h 49 5) ∧ (h99 76 0) = (h 76 0); omega)⟩
          · skip
            refine ov_blk (ls2 := [(0, ov_r 3), (1, ov_r 58), (2, ov_i x2), (3, ov_i x3)]) (st2 := [ov_r 3]) (pc2 := 53) b_24_52_1 rfl rfl ?_
            refine ov_cV (as := []) (st := []) (d2 := d - 1) d_24_53 lk_Reader_40 rfl (Nat.le_of_ble_eq_true rfl) (c := 6) (zb_3 I29) (zs_3 I29) ⟨by decide, rfl⟩ (by omega) (c_Reader_readLine_3_k3_1_58 (d - 1) (by omega) U I29 (ov_kws (ov_kwu hw) (by decide +kernel)) e31) ?_
            rintro _ z107 h108 ⟨v106, rfl, I109, f105⟩
            show ov_R u d ov_m24 56 [(0, ov_r 3), (1, ov_r 58), (2, ov_i x2), (3, ov_i x3)] [ov_i v106] z107 h108 (P_Reader_readTown_3_58 F z h)
            have f110 : (v106 = 0 ∧ 1 ≤ (h108 3 2) ∨ v106 = 1) ∧ (h108 36 7) = (h28 36 7) ∧ (h108 1 1) = (h28 1 1) ∧ (h108 90 2) = (h28 90 2) ∧ (h108 0 10) = (h28 0 10) ∧ (h108 0 11) = (h28 0 11) ∧ (h108 0 12) = (h28 0 12) ∧ (h108 0 13) = (h28 0 13) ∧ (h108 3 1) = (h28 3 1) ∧ (h108 36 8) = (h28 36 8) ∧ (h108 46 3) = (h28 46 3) ∧ (h108 46 4) = (h28 46 4) ∧ (h108 49 4) = (h28 49 4) ∧ (h108 49 5) = (h28 49 5) ∧ (h108 76 0) = (h28 76 0) := f105
            clear f105
            have e111 : h108 3 1 = 58 := by omega
            refine ov_blk (ls2 := [(0, ov_r 3), (1, ov_r 58), (2, ov_i v106), (3, ov_i (x3 + 1))]) (st2 := []) (pc2 := 60) b_24_56_2 rfl rfl ?_
            refine ov_goto (tgt := 31) d_24_60 (by decide) ?_
            exact ih24 v106 (x3 + 1) _ _ I109 (by show (v106 = 0 ∧ 1 ≤ (h108 3 2) ∨ v106 = 1) ∧ 0 ≤ (x3 + 1) ∧ (x3 + 1) ≤ 1000 ∧ (h108 36 7) = (h 36 7) ∧ (h108 90 2) = (h 90 2) ∧ (h108 0 10) = (h 0 10) ∧ (h108 0 11) = (h 0 11) ∧ (h108 0 12) = (h 0 12) ∧ (h108 0 13) = (h 0 13) ∧ (h108 36 8) = (h 36 8) ∧ (h108 46 3) = (h 46 3) ∧ (h108 46 4) = (h 46 4) ∧ (h108 49 4) = (h 49 4) ∧ (h108 49 5) = (h 49 5) ∧ (h108 76 0) = (h 76 0) ∧ (h108 3 1) = 58; omega) (by omega)
  exact L26 1001 v17 0 _ _ I20 (by show (v17 = 0 ∧ 1 ≤ (h19 3 2) ∨ v17 = 1) ∧ 0 ≤ 0 ∧ 0 ≤ 1000 ∧ (h19 36 7) = (h 36 7) ∧ (h19 90 2) = (h 90 2) ∧ (h19 0 10) = (h 0 10) ∧ (h19 0 11) = (h 0 11) ∧ (h19 0 12) = (h 0 12) ∧ (h19 0 13) = (h 0 13) ∧ (h19 36 8) = (h 36 8) ∧ (h19 46 3) = (h 46 3) ∧ (h19 46 4) = (h 46 4) ∧ (h19 49 4) = (h 49 4) ∧ (h19 49 5) = (h 49 5) ∧ (h19 76 0) = (h 76 0) ∧ (h19 3 1) = 58; omega) (by omega)
abbrev P_Reader_readStep_3_82_k3_1_70 (F : ov_H) (z : ov_Z) (h : ov_H)  : Option ov_V → ov_Z → ov_H → Prop := fun r0 z' h' => ∃ r : Int, r0 = some (ov_i r) ∧ ov_I F z' h' ∧ ((r = 0 ∧ 1 ≤ (h' 3 2) ∨ r = 1) ∧ (h' 36 7) = (h 36 7) ∧ (h' 1 1) = (h 1 1) ∧ (h' 90 2) = (h 90 2) ∧ (h' 0 10) = (h 0 10) ∧ (h' 0 11) = (h 0 11) ∧ (h' 0 12) = (h 0 12) ∧ (h' 0 13) = (h 0 13) ∧ (h' 3 1) = (h 3 1) ∧ (h' 36 8) = (h 36 8) ∧ (h' 46 3) = (h 46 3) ∧ (h' 46 4) = (h 46 4) ∧ (h' 49 4) = (h 49 4) ∧ (h' 49 5) = (h 49 5) ∧ (h' 64 0) = (h 64 0) ∧ (h' 76 0) = (h 76 0))
set_option maxHeartbeats 4000000 in
theorem c_Reader_readStep_3_82_k3_1_70 {u : ov_U} {F : ov_H} {z : ov_Z} {h : ov_H} (d : Nat) (hd : 6 ≤ d) (U : ov_cap u) (I : ov_I F z h) (hw : ov_kw 72535549176877750482370570 F) (k0 : h 3 1 = 70) : ov_T u d ov_m90 [ov_r 3, ov_r 82] z h (P_Reader_readStep_3_82_k3_1_70 F z h) := by
  refine ov_en rfl (Nat.le_of_ble_eq_true rfl) ?_
  show ov_R u d ov_m90 0 [(0, ov_r 3), (1, ov_r 82)] [] z h (P_Reader_readStep_3_82_k3_1_70 F z h)
  refine ov_blk (ls2 := [(0, ov_r 3), (1, ov_r 82)]) (st2 := [ov_r 3]) (pc2 := 1) b_90_0_1 rfl rfl ?_
  refine ov_cV (as := []) (st := []) (d2 := d - 1) d_90_1 lk_Reader_54 rfl (Nat.le_of_ble_eq_true rfl) (c := 6) (zb_3 I) (zs_3 I) ⟨by decide, rfl⟩ (by omega) (c_Reader_wayTold_3_k3_1_70 (d - 1) (by omega) U I k0) ?_
  rintro _ _ _ ⟨v2, rfl, rfl, rfl, f1⟩
  show ov_R u d ov_m90 4 [(0, ov_r 3), (1, ov_r 82)] [ov_i v2] z h (P_Reader_readStep_3_82_k3_1_70 F z h)
  have f3 : -1 ≤ v2 ∧ v2 ≤ 1 := f1
  clear f1
  refine ov_blk (ls2 := [(0, ov_r 3), (1, ov_r 82), (2, ov_i v2)]) (st2 := [ov_i (-1), ov_i v2]) (pc2 := 7) b_90_4_3 rfl rfl ?_
  refine ov_icne (tgt := 16) d_90_7 (by decide) (by omega) (by omega) (fun c4 => ?_) (fun c4 => ?_)
  · skip
    refine ov_blk (ls2 := [(0, ov_r 3), (1, ov_r 82), (2, ov_i v2)]) (st2 := [ov_r 82]) (pc2 := 17) b_90_16_1 rfl rfl ?_
    refine ov_getf (v := ov_i (h 82 1)) d_90_17 fl_Reader_62 (zb_82 I) (zs_82 I) rfl ?_
    have g5 := rg_82_1 I
    refine ov_blk (ls2 := [(0, ov_r 3), (1, ov_r 82), (2, ov_i v2), (3, ov_i (h 82 1))]) (st2 := [ov_r 3]) (pc2 := 22) b_90_20_2 rfl rfl ?_
    refine ov_getf (v := ov_r 70) d_90_22 fl_Reader_15 (zb_3 I) (zs_3 I) (congrArg ov_r k0) ?_
    refine ov_blk (ls2 := [(0, ov_r 3), (1, ov_r 82), (2, ov_i v2), (3, ov_i (h 82 1))]) (st2 := [ov_i v2, ov_i (h 82 1), ov_r 70]) (pc2 := 27) b_90_25_2 rfl rfl ?_
    refine ov_cV (as := [ov_i (h 82 1), ov_i v2]) (st := []) (d2 := d - 1) d_90_27 lk_Reader_65 rfl (Nat.le_of_ble_eq_true rfl) (c := 9) (zb_70 I) (zs_70 I) ⟨by decide, rfl⟩ (by omega) (c_Town_isBeyond_70 (d - 1) (by omega) U I (h 82 1) v2 (by omega) (by omega) (by omega)) ?_
    rintro _ _ _ ⟨v7, rfl, rfl, rfl, f6⟩
    show ov_R u d ov_m90 30 [(0, ov_r 3), (1, ov_r 82), (2, ov_i v2), (3, ov_i (h 82 1))] [ov_i v7] z h (P_Reader_readStep_3_82_k3_1_70 F z h)
    have f8 : (v7 = 0 ∨ v7 = 1) ∧ (v7 = 0 → (v2 = 0 → (h 82 1) % 6 < (h 70 0) - 1 ∧ (h 70 0) ≤ 6) ∧ (¬ v2 = 0 → (h 82 1) / 6 < (h 70 1) - 1 ∧ (h 70 1) ≤ 9)) := f6
    clear f6
    refine ov_ifne (tgt := 45) d_90_30 (by decide) (by omega) (fun c9 => ?_) (fun c9 => ?_)
    · skip
      refine ov_blk (ls2 := [(0, ov_r 3), (1, ov_r 82), (2, ov_i v2), (3, ov_i (h 82 1))]) (st2 := [ov_i 2, ov_r 3]) (pc2 := 47) b_90_45_2 rfl rfl ?_
      refine ov_cV (as := [ov_i 2]) (st := []) (d2 := d - 1) d_90_47 lk_Reader_58 rfl (Nat.le_of_ble_eq_true rfl) (c := 6) (zb_3 I) (zs_3 I) ⟨by decide, rfl⟩ (by omega) (c_Reader_fail_3_k3_1_70 (d - 1) (by omega) U I (ov_kws hw (by decide +kernel)) 2 k0 (by omega) (by omega)) ?_
      rintro _ z12 h13 ⟨v11, rfl, I14, f10⟩
      show ov_R u d ov_m90 50 [(0, ov_r 3), (1, ov_r 82), (2, ov_i v2), (3, ov_i (h 82 1))] [ov_i v11] z12 h13 (P_Reader_readStep_3_82_k3_1_70 F z h)
      have f15 : v11 = 0 ∧ 1 ≤ (h13 3 2) ∧ (h13 36 7) = (h 36 7) ∧ (h13 1 1) = (h 1 1) ∧ (h13 90 2) = (h 90 2) ∧ (h13 0 10) = (h 0 10) ∧ (h13 0 11) = (h 0 11) ∧ (h13 0 12) = (h 0 12) ∧ (h13 0 13) = (h 0 13) ∧ (h13 3 1) = (h 3 1) ∧ (h13 36 8) = (h 36 8) ∧ (h13 46 3) = (h 46 3) ∧ (h13 46 4) = (h 46 4) ∧ (h13 49 4) = (h 49 4) ∧ (h13 49 5) = (h 49 5) ∧ (h13 64 0) = (h 64 0) ∧ (h13 76 0) = (h 76 0) := f10
      clear f10
      have e16 : h13 3 1 = 70 := by omega
      exact ov_retz (st := []) d_90_50 rfl (by omega) ⟨_, rfl, I14, (by show (v11 = 0 ∧ 1 ≤ (h13 3 2) ∨ v11 = 1) ∧ (h13 36 7) = (h 36 7) ∧ (h13 1 1) = (h 1 1) ∧ (h13 90 2) = (h 90 2) ∧ (h13 0 10) = (h 0 10) ∧ (h13 0 11) = (h 0 11) ∧ (h13 0 12) = (h 0 12) ∧ (h13 0 13) = (h 0 13) ∧ (h13 3 1) = (h 3 1) ∧ (h13 36 8) = (h 36 8) ∧ (h13 46 3) = (h 46 3) ∧ (h13 46 4) = (h 46 4) ∧ (h13 49 4) = (h 49 4) ∧ (h13 49 5) = (h 49 5) ∧ (h13 64 0) = (h 64 0) ∧ (h13 76 0) = (h 76 0); omega)⟩
    · skip
      refine ov_blk (ls2 := [(0, ov_r 3), (1, ov_r 82), (2, ov_i v2), (3, ov_i (h 82 1))]) (st2 := [ov_r 3]) (pc2 := 34) b_90_33_1 rfl rfl ?_
      refine ov_getf (v := ov_r 70) d_90_34 fl_Reader_15 (zb_3 I) (zs_3 I) (congrArg ov_r k0) ?_
      refine ov_blk (ls2 := [(0, ov_r 3), (1, ov_r 82), (2, ov_i v2), (3, ov_i (h 82 1))]) (st2 := [ov_i v2, ov_i (h 82 1), ov_r 70]) (pc2 := 39) b_90_37_2 rfl rfl ?_
      refine ov_cV (as := [ov_i (h 82 1), ov_i v2]) (st := []) (d2 := d - 1) d_90_39 lk_Reader_69 rfl (Nat.le_of_ble_eq_true rfl) (c := 9) (zb_70 I) (zs_70 I) ⟨by decide, rfl⟩ (by omega) (c_Town_isBarred_70 (d - 1) (by omega) U I (h 82 1) v2 (by omega) (by omega) (by omega)) ?_
      rintro _ _ _ ⟨v18, rfl, rfl, rfl, f17⟩
      show ov_R u d ov_m90 42 [(0, ov_r 3), (1, ov_r 82), (2, ov_i v2), (3, ov_i (h 82 1))] [ov_i v18] z h (P_Reader_readStep_3_82_k3_1_70 F z h)
      have f19 : (v18 = 0 ∨ v18 = 1) := f17
      clear f17
      refine ov_ifeq (tgt := 51) d_90_42 (by decide) (by omega) (fun c20 => ?_) (fun c20 => ?_)
      · skip
        refine ov_blk (ls2 := [(0, ov_r 3), (1, ov_r 82), (2, ov_i v2), (3, ov_i (h 82 1))]) (st2 := [ov_r 82]) (pc2 := 52) b_90_51_1 rfl rfl ?_
        refine ov_getf (v := ov_i (h 82 0)) d_90_52 fl_Reader_72 (zb_82 I) (zs_82 I) rfl ?_
        have g21 := rg_82_0 I
        refine ov_blk (ls2 := [(0, ov_r 3), (1, ov_r 82), (2, ov_i v2), (3, ov_i (h 82 1))]) (st2 := [ov_i 13, ov_i (h 82 0)]) (pc2 := 57) b_90_55_1 rfl rfl ?_
        refine ov_iclt (tgt := 66) d_90_57 (by decide) (by omega) (by omega) (fun c22 => ?_) (fun c22 => ?_)
        · skip
          refine ov_blk (ls2 := [(0, ov_r 3), (1, ov_r 82), (2, ov_i v2), (3, ov_i (h 82 1))]) (st2 := [ov_r 3]) (pc2 := 67) b_90_66_1 rfl rfl ?_
          refine ov_getf (v := ov_r 1) d_90_67 fl_Reader_9 (zb_3 I) (zs_3 I) (congrArg ov_r (rg_3_0 I)) ?_
          refine ov_cV (as := []) (st := []) (d2 := d - 1) d_90_70 lk_Reader_75 rfl (Nat.le_of_ble_eq_true rfl) (c := 8) (zb_1 I) (zs_1 I) ⟨by decide, rfl⟩ (by omega) (c_Tape_advance_1 (d - 1) (by omega) U I (ov_kws hw (by decide +kernel))) ?_
          rintro _ z24 h25 ⟨rfl, I26, f23⟩
          show ov_R u d ov_m90 73 [(0, ov_r 3), (1, ov_r 82), (2, ov_i v2), (3, ov_i (h 82 1))] [] z24 h25 (P_Reader_readStep_3_82_k3_1_70 F z h)
          have f27 : (h25 3 3) = (h 3 3) ∧ (h25 36 7) = (h 36 7) ∧ (h25 1 1) = (h 1 1) ∧ (h25 90 2) = (h 90 2) ∧ (h25 0 10) = (h 0 10) ∧ (h25 0 11) = (h 0 11) ∧ (h25 0 12) = (h 0 12) ∧ (h25 0 13) = (h 0 13) ∧ (h25 3 1) = (h 3 1) ∧ (h25 36 8) = (h 36 8) ∧ (h25 46 3) = (h 46 3) ∧ (h25 46 4) = (h 46 4) ∧ (h25 49 4) = (h 49 4) ∧ (h25 49 5) = (h 49 5) ∧ (h25 64 0) = (h 64 0) ∧ (h25 76 0) = (h 76 0) := f23
          clear f23
          have e28 : h25 3 1 = 70 := by omega
          refine ov_blk (ls2 := [(0, ov_r 3), (1, ov_r 82), (2, ov_i v2), (3, ov_i (h 82 1))]) (st2 := [ov_i 9999, ov_i 0, ov_r 3]) (pc2 := 78) b_90_73_3 rfl rfl ?_
          refine ov_cV (as := [ov_i 0, ov_i 9999]) (st := []) (d2 := d - 1) d_90_78 lk_Reader_78 rfl (Nat.le_of_ble_eq_true rfl) (c := 6) (zb_3 I26) (zs_3 I26) ⟨by decide, rfl⟩ (by omega) (c_Reader_takeNumber_3_k3_1_70 (d - 1) (by omega) U I26 (ov_kws hw (by decide +kernel)) 0 9999 e28 (by omega) (by omega)) ?_
          rintro _ z31 h32 ⟨v30, rfl, I33, f29⟩
          show ov_R u d ov_m90 81 [(0, ov_r 3), (1, ov_r 82), (2, ov_i v2), (3, ov_i (h 82 1))] [ov_i v30] z31 h32 (P_Reader_readStep_3_82_k3_1_70 F z h)
          have f34 : (v30 = 0 ∧ 1 ≤ (h32 3 2) ∨ v30 = 1 ∧ (0 : Int) ≤ (h32 3 3) ∧ (h32 3 3) ≤ (9999 : Int)) ∧ (h32 36 7) = (h25 36 7) ∧ (h32 1 1) = (h25 1 1) ∧ (h32 90 2) = (h25 90 2) ∧ (h32 0 10) = (h25 0 10) ∧ (h32 0 11) = (h25 0 11) ∧ (h32 0 12) = (h25 0 12) ∧ (h32 0 13) = (h25 0 13) ∧ (h32 3 1) = (h25 3 1) ∧ (h32 36 8) = (h25 36 8) ∧ (h32 46 3) = (h25 46 3) ∧ (h32 46 4) = (h25 46 4) ∧ (h32 49 4) = (h25 49 4) ∧ (h32 49 5) = (h25 49 5) ∧ (h32 64 0) = (h25 64 0) ∧ (h32 76 0) = (h25 76 0) := f29
          clear f29
          have e35 : h32 3 1 = 70 := by omega
          refine ov_ifne (tgt := 86) d_90_81 (by decide) (by omega) (fun c36 => ?_) (fun c36 => ?_)
          · skip
            refine ov_blk (ls2 := [(0, ov_r 3), (1, ov_r 82), (2, ov_i v2), (3, ov_i (h 82 1))]) (st2 := [ov_r 3, ov_i v2, ov_i (h 82 1), ov_r 82]) (pc2 := 90) b_90_86_4 rfl rfl ?_
            refine ov_getf (v := ov_i (h32 3 3)) d_90_90 fl_Reader_81 (zb_3 I33) (zs_3 I33) rfl ?_
            have g37 := rg_3_3 I33
            refine ov_blk (ls2 := [(0, ov_r 3), (1, ov_r 82), (2, ov_i v2), (3, ov_i (h 82 1))]) (st2 := [ov_r 3, ov_i (h32 3 3), ov_i v2, ov_i (h 82 1), ov_r 82]) (pc2 := 94) b_90_93_1 rfl rfl ?_
            refine ov_getf (v := ov_r 70) d_90_94 fl_Reader_15 (zb_3 I33) (zs_3 I33) (congrArg ov_r e35) ?_
            refine ov_blk (ls2 := [(0, ov_r 3), (1, ov_r 82), (2, ov_i v2), (3, ov_i (h 82 1))]) (st2 := [ov_i v2, ov_i (h 82 1), ov_r 70, ov_i (h32 3 3), ov_i v2, ov_i (h 82 1), ov_r 82]) (pc2 := 99) b_90_97_2 rfl rfl ?_
            refine ov_cV (as := [ov_i (h 82 1), ov_i v2]) (st := [ov_i (h32 3 3), ov_i v2, ov_i (h 82 1), ov_r 82]) (d2 := d - 1) d_90_99 lk_Reader_84 rfl (Nat.le_of_ble_eq_true rfl) (c := 9) (zb_70 I33) (zs_70 I33) ⟨by decide, rfl⟩ (by omega) (c_Town_after_70 (d - 1) (by omega) U I33 (h 82 1) v2 (by omega) (by omega) (by omega)) ?_
            rintro _ _ _ ⟨v39, rfl, rfl, rfl, f38⟩
            show ov_R u d ov_m90 102 [(0, ov_r 3), (1, ov_r 82), (2, ov_i v2), (3, ov_i (h 82 1))] [ov_i v39, ov_i (h32 3 3), ov_i v2, ov_i (h 82 1), ov_r 82] z31 h32 (P_Reader_readStep_3_82_k3_1_70 F z h)
            have f40 : (v2 = 0 → v39 = (h 82 1) + 1) ∧ (¬ v2 = 0 → v39 = (h 82 1) + 6) := f38
            clear f38
            refine ov_cV (as := [ov_i (h 82 1), ov_i v2, ov_i (h32 3 3), ov_i v39]) (st := []) (d2 := d - 1) d_90_102 lk_Reader_88 rfl (Nat.le_of_ble_eq_true rfl) (c := 10) (zb_82 I33) (zs_82 I33) ⟨by decide, rfl⟩ (by omega) (c_Walk_add_82 (d - 1) (by omega) U I33 (ov_kws hw (by decide +kernel)) (h 82 1) v2 (h32 3 3) v39 (by omega) (by omega) (by omega) (by omega) (by omega) (by omega) (by omega)) ?_
            rintro _ z42 h43 ⟨rfl, I44, f41⟩
            show ov_R u d ov_m90 105 [(0, ov_r 3), (1, ov_r 82), (2, ov_i v2), (3, ov_i (h 82 1))] [] z42 h43 (P_Reader_readStep_3_82_k3_1_70 F z h)
            have f45 : (h43 36 7) = (h32 36 7) ∧ (h43 1 1) = (h32 1 1) ∧ (h43 90 2) = (h32 90 2) ∧ (h43 0 10) = (h32 0 10) ∧ (h43 0 11) = (h32 0 11) ∧ (h43 0 12) = (h32 0 12) ∧ (h43 0 13) = (h32 0 13) ∧ (h43 3 1) = (h32 3 1) ∧ (h43 36 8) = (h32 36 8) ∧ (h43 46 3) = (h32 46 3) ∧ (h43 46 4) = (h32 46 4) ∧ (h43 49 4) = (h32 49 4) ∧ (h43 49 5) = (h32 49 5) ∧ (h43 64 0) = (h32 64 0) ∧ (h43 76 0) = (h32 76 0) := f41
            clear f41
            have e46 : h43 3 1 = 70 := by omega
            refine ov_blk (ls2 := [(0, ov_r 3), (1, ov_r 82), (2, ov_i v2), (3, ov_i (h 82 1))]) (st2 := [ov_i 59, ov_r 3]) (pc2 := 108) b_90_105_2 rfl rfl ?_
            refine ov_cV (as := [ov_i 59]) (st := []) (d2 := d - 1) d_90_108 lk_Reader_92 rfl (Nat.le_of_ble_eq_true rfl) (c := 6) (zb_3 I44) (zs_3 I44) ⟨by decide, rfl⟩ (by omega) (c_Reader_takeSign_3_k3_1_70 (d - 1) (by omega) U I44 (ov_kws hw (by decide +kernel)) 59 e46 (by omega)) ?_
            rintro _ z49 h50 ⟨v48, rfl, I51, f47⟩
            show ov_R u d ov_m90 111 [(0, ov_r 3), (1, ov_r 82), (2, ov_i v2), (3, ov_i (h 82 1))] [ov_i v48] z49 h50 (P_Reader_readStep_3_82_k3_1_70 F z h)
            have f52 : (v48 = 0 ∧ 1 ≤ (h50 3 2) ∨ v48 = 1) ∧ (h50 36 7) = (h43 36 7) ∧ (h50 1 1) = (h43 1 1) ∧ (h50 90 2) = (h43 90 2) ∧ (h50 0 10) = (h43 0 10) ∧ (h50 0 11) = (h43 0 11) ∧ (h50 0 12) = (h43 0 12) ∧ (h50 0 13) = (h43 0 13) ∧ (h50 3 1) = (h43 3 1) ∧ (h50 36 8) = (h43 36 8) ∧ (h50 46 3) = (h43 46 3) ∧ (h50 46 4) = (h43 46 4) ∧ (h50 49 4) = (h43 49 4) ∧ (h50 49 5) = (h43 49 5) ∧ (h50 64 0) = (h43 64 0) ∧ (h50 76 0) = (h43 76 0) := f47
            clear f47
            have e53 : h50 3 1 = 70 := by omega
            exact ov_retz (st := []) d_90_111 rfl (by omega) ⟨_, rfl, I51, (by show (v48 = 0 ∧ 1 ≤ (h50 3 2) ∨ v48 = 1) ∧ (h50 36 7) = (h 36 7) ∧ (h50 1 1) = (h 1 1) ∧ (h50 90 2) = (h 90 2) ∧ (h50 0 10) = (h 0 10) ∧ (h50 0 11) = (h 0 11) ∧ (h50 0 12) = (h 0 12) ∧ (h50 0 13) = (h 0 13) ∧ (h50 3 1) = (h 3 1) ∧ (h50 36 8) = (h 36 8) ∧ (h50 46 3) = (h 46 3) ∧ (h50 46 4) = (h 46 4) ∧ (h50 49 4) = (h 49 4) ∧ (h50 49 5) = (h 49 5) ∧ (h50 64 0) = (h 64 0) ∧ (h50 76 0) = (h 76 0); omega)⟩
          · skip
            refine ov_blk (ls2 := [(0, ov_r 3), (1, ov_r 82), (2, ov_i v2), (3, ov_i (h 82 1))]) (st2 := [ov_i 0]) (pc2 := 85) b_90_84_1 rfl rfl ?_
            exact ov_retz (st := []) d_90_85 rfl (by omega) ⟨_, rfl, I33, (by show (0 = 0 ∧ 1 ≤ (h32 3 2) ∨ 0 = 1) ∧ (h32 36 7) = (h 36 7) ∧ (h32 1 1) = (h 1 1) ∧ (h32 90 2) = (h 90 2) ∧ (h32 0 10) = (h 0 10) ∧ (h32 0 11) = (h 0 11) ∧ (h32 0 12) = (h 0 12) ∧ (h32 0 13) = (h 0 13) ∧ (h32 3 1) = (h 3 1) ∧ (h32 36 8) = (h 36 8) ∧ (h32 46 3) = (h 46 3) ∧ (h32 46 4) = (h 46 4) ∧ (h32 49 4) = (h 49 4) ∧ (h32 49 5) = (h 49 5) ∧ (h32 64 0) = (h 64 0) ∧ (h32 76 0) = (h 76 0); omega)⟩
        · skip
          refine ov_blk (ls2 := [(0, ov_r 3), (1, ov_r 82), (2, ov_i v2), (3, ov_i (h 82 1))]) (st2 := [ov_i 5, ov_r 3]) (pc2 := 62) b_90_60_2 rfl rfl ?_
          refine ov_cV (as := [ov_i 5]) (st := []) (d2 := d - 1) d_90_62 lk_Reader_58 rfl (Nat.le_of_ble_eq_true rfl) (c := 6) (zb_3 I) (zs_3 I) ⟨by decide, rfl⟩ (by omega) (c_Reader_fail_3_k3_1_70 (d - 1) (by omega) U I (ov_kws hw (by decide +kernel)) 5 k0 (by omega) (by omega)) ?_
          rintro _ z56 h57 ⟨v55, rfl, I58, f54⟩
          show ov_R u d ov_m90 65 [(0, ov_r 3), (1, ov_r 82), (2, ov_i v2), (3, ov_i (h 82 1))] [ov_i v55] z56 h57 (P_Reader_readStep_3_82_k3_1_70 F z h)
          have f59 : v55 = 0 ∧ 1 ≤ (h57 3 2) ∧ (h57 36 7) = (h 36 7) ∧ (h57 1 1) = (h 1 1) ∧ (h57 90 2) = (h 90 2) ∧ (h57 0 10) = (h 0 10) ∧ (h57 0 11) = (h 0 11) ∧ (h57 0 12) = (h 0 12) ∧ (h57 0 13) = (h 0 13) ∧ (h57 3 1) = (h 3 1) ∧ (h57 36 8) = (h 36 8) ∧ (h57 46 3) = (h 46 3) ∧ (h57 46 4) = (h 46 4) ∧ (h57 49 4) = (h 49 4) ∧ (h57 49 5) = (h 49 5) ∧ (h57 64 0) = (h 64 0) ∧ (h57 76 0) = (h 76 0) := f54
          clear f54
          have e60 : h57 3 1 = 70 := by omega
          exact ov_retz (st := []) d_90_65 rfl (by omega) ⟨_, rfl, I58, (by show (v55 = 0 ∧ 1 ≤ (h57 3 2) ∨ v55 = 1) ∧ (h57 36 7) = (h 36 7) ∧ (h57 1 1) = (h 1 1) ∧ (h57 90 2) = (h 90 2) ∧ (h57 0 10) = (h 0 10) ∧ (h57 0 11) = (h 0 11) ∧ (h57 0 12) = (h 0 12) ∧ (h57 0 13) = (h 0 13) ∧ (h57 3 1) = (h 3 1) ∧ (h57 36 8) = (h 36 8) ∧ (h57 46 3) = (h 46 3) ∧ (h57 46 4) = (h 46 4) ∧ (h57 49 4) = (h 49 4) ∧ (h57 49 5) = (h 49 5) ∧ (h57 64 0) = (h 64 0) ∧ (h57 76 0) = (h 76 0); omega)⟩
      · skip
        refine ov_blk (ls2 := [(0, ov_r 3), (1, ov_r 82), (2, ov_i v2), (3, ov_i (h 82 1))]) (st2 := [ov_i 2, ov_r 3]) (pc2 := 47) b_90_45_2 rfl rfl ?_
        refine ov_cV (as := [ov_i 2]) (st := []) (d2 := d - 1) d_90_47 lk_Reader_58 rfl (Nat.le_of_ble_eq_true rfl) (c := 6) (zb_3 I) (zs_3 I) ⟨by decide, rfl⟩ (by omega) (c_Reader_fail_3_k3_1_70 (d - 1) (by omega) U I (ov_kws hw (by decide +kernel)) 2 k0 (by omega) (by omega)) ?_
        rintro _ z63 h64 ⟨v62, rfl, I65, f61⟩
        show ov_R u d ov_m90 50 [(0, ov_r 3), (1, ov_r 82), (2, ov_i v2), (3, ov_i (h 82 1))] [ov_i v62] z63 h64 (P_Reader_readStep_3_82_k3_1_70 F z h)
        have f66 : v62 = 0 ∧ 1 ≤ (h64 3 2) ∧ (h64 36 7) = (h 36 7) ∧ (h64 1 1) = (h 1 1) ∧ (h64 90 2) = (h 90 2) ∧ (h64 0 10) = (h 0 10) ∧ (h64 0 11) = (h 0 11) ∧ (h64 0 12) = (h 0 12) ∧ (h64 0 13) = (h 0 13) ∧ (h64 3 1) = (h 3 1) ∧ (h64 36 8) = (h 36 8) ∧ (h64 46 3) = (h 46 3) ∧ (h64 46 4) = (h 46 4) ∧ (h64 49 4) = (h 49 4) ∧ (h64 49 5) = (h 49 5) ∧ (h64 64 0) = (h 64 0) ∧ (h64 76 0) = (h 76 0) := f61
        clear f61
        have e67 : h64 3 1 = 70 := by omega
        exact ov_retz (st := []) d_90_50 rfl (by omega) ⟨_, rfl, I65, (by show (v62 = 0 ∧ 1 ≤ (h64 3 2) ∨ v62 = 1) ∧ (h64 36 7) = (h 36 7) ∧ (h64 1 1) = (h 1 1) ∧ (h64 90 2) = (h 90 2) ∧ (h64 0 10) = (h 0 10) ∧ (h64 0 11) = (h 0 11) ∧ (h64 0 12) = (h 0 12) ∧ (h64 0 13) = (h 0 13) ∧ (h64 3 1) = (h 3 1) ∧ (h64 36 8) = (h 36 8) ∧ (h64 46 3) = (h 46 3) ∧ (h64 46 4) = (h 46 4) ∧ (h64 49 4) = (h 49 4) ∧ (h64 49 5) = (h 49 5) ∧ (h64 64 0) = (h 64 0) ∧ (h64 76 0) = (h 76 0); omega)⟩
  · skip
    refine ov_blk (ls2 := [(0, ov_r 3), (1, ov_r 82), (2, ov_i v2)]) (st2 := [ov_i 1, ov_r 3]) (pc2 := 12) b_90_10_2 rfl rfl ?_
    refine ov_cV (as := [ov_i 1]) (st := []) (d2 := d - 1) d_90_12 lk_Reader_58 rfl (Nat.le_of_ble_eq_true rfl) (c := 6) (zb_3 I) (zs_3 I) ⟨by decide, rfl⟩ (by omega) (c_Reader_fail_3_k3_1_70 (d - 1) (by omega) U I (ov_kws hw (by decide +kernel)) 1 k0 (by omega) (by omega)) ?_
    rintro _ z70 h71 ⟨v69, rfl, I72, f68⟩
    show ov_R u d ov_m90 15 [(0, ov_r 3), (1, ov_r 82), (2, ov_i v2)] [ov_i v69] z70 h71 (P_Reader_readStep_3_82_k3_1_70 F z h)
    have f73 : v69 = 0 ∧ 1 ≤ (h71 3 2) ∧ (h71 36 7) = (h 36 7) ∧ (h71 1 1) = (h 1 1) ∧ (h71 90 2) = (h 90 2) ∧ (h71 0 10) = (h 0 10) ∧ (h71 0 11) = (h 0 11) ∧ (h71 0 12) = (h 0 12) ∧ (h71 0 13) = (h 0 13) ∧ (h71 3 1) = (h 3 1) ∧ (h71 36 8) = (h 36 8) ∧ (h71 46 3) = (h 46 3) ∧ (h71 46 4) = (h 46 4) ∧ (h71 49 4) = (h 49 4) ∧ (h71 49 5) = (h 49 5) ∧ (h71 64 0) = (h 64 0) ∧ (h71 76 0) = (h 76 0) := f68
    clear f68
    have e74 : h71 3 1 = 70 := by omega
    exact ov_retz (st := []) d_90_15 rfl (by omega) ⟨_, rfl, I72, (by show (v69 = 0 ∧ 1 ≤ (h71 3 2) ∨ v69 = 1) ∧ (h71 36 7) = (h 36 7) ∧ (h71 1 1) = (h 1 1) ∧ (h71 90 2) = (h 90 2) ∧ (h71 0 10) = (h 0 10) ∧ (h71 0 11) = (h 0 11) ∧ (h71 0 12) = (h 0 12) ∧ (h71 0 13) = (h 0 13) ∧ (h71 3 1) = (h 3 1) ∧ (h71 36 8) = (h 36 8) ∧ (h71 46 3) = (h 46 3) ∧ (h71 46 4) = (h 46 4) ∧ (h71 49 4) = (h 49 4) ∧ (h71 49 5) = (h 49 5) ∧ (h71 64 0) = (h 64 0) ∧ (h71 76 0) = (h 76 0); omega)⟩
abbrev P_Reader_readWalk_3_70_82 (F : ov_H) (z : ov_Z) (h : ov_H)  : Option ov_V → ov_Z → ov_H → Prop := fun r0 z' h' => ∃ r : Int, r0 = some (ov_i r) ∧ ov_I F z' h' ∧ ((h' 1 1) = 0 ∧ (h' 36 7) = (h 36 7) ∧ (h' 90 2) = (h 90 2) ∧ (h' 0 10) = (h 0 10) ∧ (h' 0 11) = (h 0 11) ∧ (h' 0 12) = (h 0 12) ∧ (h' 0 13) = (h 0 13) ∧ (h' 36 8) = (h 36 8) ∧ (h' 46 3) = (h 46 3) ∧ (h' 46 4) = (h 46 4) ∧ (h' 49 4) = (h 49 4) ∧ (h' 49 5) = (h 49 5) ∧ (h' 64 0) = (h 64 0) ∧ (h' 76 0) = (h 76 0))
set_option maxHeartbeats 4000000 in
theorem c_Reader_readWalk_3_70_82 {u : ov_U} {F : ov_H} {z : ov_Z} {h : ov_H} (d : Nat) (hd : 7 ≤ d) (U : ov_cap u) (I : ov_I F z h) (hw : ov_kw 72535549176877750482370570 F) : ov_T u d ov_m89 [ov_r 3, ov_r 70, ov_r 82] z h (P_Reader_readWalk_3_70_82 F z h) := by
  refine ov_en rfl (Nat.le_of_ble_eq_true rfl) ?_
  show ov_R u d ov_m89 0 [(0, ov_r 3), (1, ov_r 70), (2, ov_r 82)] [] z h (P_Reader_readWalk_3_70_82 F z h)
  refine ov_blk (ls2 := [(0, ov_r 3), (1, ov_r 70), (2, ov_r 82)]) (st2 := [ov_r 70, ov_r 3]) (pc2 := 2) b_89_0_2 rfl rfl ?_
  refine ov_putf (x := 70) d_89_2 fl_Reader_15 (zb_3 I) (zs_3 I) rfl nk_2 rfl ?_
  have I1 := up_3_1 (x := 70) I (by omega) (hw 3 (by decide +kernel))
  refine ov_blk (ls2 := [(0, ov_r 3), (1, ov_r 70), (2, ov_r 82)]) (st2 := [ov_r 82]) (pc2 := 6) b_89_5_1 rfl rfl ?_
  refine ov_cV (as := []) (st := []) (d2 := d - 1) d_89_6 lk_Reader_47 rfl (Nat.le_of_ble_eq_true rfl) (c := 10) (zb_82 I1) (zs_82 I1) ⟨by decide, rfl⟩ (by omega) (c_Walk_clear_82 (d - 1) (by omega) U I1 (ov_kws hw (by decide +kernel))) ?_
  rintro _ z3 h4 ⟨rfl, I5, f2⟩
  show ov_R u d ov_m89 9 [(0, ov_r 3), (1, ov_r 70), (2, ov_r 82)] [] z3 h4 (P_Reader_readWalk_3_70_82 F z h)
  have f6 : (h4 36 7) = (h 36 7) ∧ (h4 1 1) = (h 1 1) ∧ (h4 90 2) = (h 90 2) ∧ (h4 0 10) = (h 0 10) ∧ (h4 0 11) = (h 0 11) ∧ (h4 0 12) = (h 0 12) ∧ (h4 0 13) = (h 0 13) ∧ (h4 3 1) = 70 ∧ (h4 36 8) = (h 36 8) ∧ (h4 46 3) = (h 46 3) ∧ (h4 46 4) = (h 46 4) ∧ (h4 49 4) = (h 49 4) ∧ (h4 49 5) = (h 49 5) ∧ (h4 64 0) = (h 64 0) ∧ (h4 76 0) = (h 76 0) := f2
  clear f2
  have e7 : h4 3 1 = 70 := by omega
  refine ov_blk (ls2 := [(0, ov_r 3), (1, ov_r 70), (2, ov_r 82)]) (st2 := [ov_i 0, ov_r 3]) (pc2 := 11) b_89_9_2 rfl rfl ?_
  refine ov_putf (x := 0) d_89_11 fl_Reader_24 (zb_3 I5) (zs_3 I5) rfl nk_0 rfl ?_
  have I8 := up_3_2 (x := 0) I5 (by omega) (hw 3 (by decide +kernel))
  refine ov_blk (ls2 := [(0, ov_r 3), (1, ov_r 70), (2, ov_r 82)]) (st2 := [ov_r 3]) (pc2 := 15) b_89_14_1 rfl rfl ?_
  refine ov_getf (v := ov_r 1) d_89_15 fl_Reader_9 (zb_3 I8) (zs_3 I8) (congrArg ov_r (rg_3_0 I8)) ?_
  refine ov_cV (as := []) (st := []) (d2 := d - 1) d_89_18 lk_Reader_28 rfl (Nat.le_of_ble_eq_true rfl) (c := 8) (zb_1 I8) (zs_1 I8) ⟨by decide, rfl⟩ (by omega) (c_Tape_begin_1 (d - 1) (by omega) U I8 (ov_kws hw (by decide +kernel))) ?_
  rintro _ z10 h11 ⟨rfl, I12, f9⟩
  show ov_R u d ov_m89 21 [(0, ov_r 3), (1, ov_r 70), (2, ov_r 82)] [] z10 h11 (P_Reader_readWalk_3_70_82 F z h)
  have f13 : (h11 3 3) = (h4 3 3) ∧ (h11 36 7) = (h4 36 7) ∧ (h11 1 1) = (h4 1 1) ∧ (h11 90 2) = (h4 90 2) ∧ (h11 0 10) = (h4 0 10) ∧ (h11 0 11) = (h4 0 11) ∧ (h11 0 12) = (h4 0 12) ∧ (h11 0 13) = (h4 0 13) ∧ (h11 3 1) = (h4 3 1) ∧ (h11 36 8) = (h4 36 8) ∧ (h11 46 3) = (h4 46 3) ∧ (h11 46 4) = (h4 46 4) ∧ (h11 49 4) = (h4 49 4) ∧ (h11 49 5) = (h4 49 5) ∧ (h11 64 0) = (h4 64 0) ∧ (h11 76 0) = (h4 76 0) := f9
  clear f9
  have e14 : h11 3 1 = 70 := by omega
  refine ov_blk (ls2 := [(0, ov_r 3), (1, ov_r 70), (2, ov_r 82), (3, ov_i 1), (4, ov_i 0)]) (st2 := []) (pc2 := 26) b_89_21_4 rfl rfl ?_
  have L18 : ∀ (n15 : Nat) (x3 : Int) (x4 : Int) (z19 : ov_Z) (h20 : ov_H) (I21 : ov_I F z19 h20) (q17 : (x3 = 0 ∨ x3 = 1) ∧ 0 ≤ x4 ∧ x4 ≤ 1000 ∧ (h20 36 7) = (h 36 7) ∧ (h20 90 2) = (h 90 2) ∧ (h20 0 10) = (h 0 10) ∧ (h20 0 11) = (h 0 11) ∧ (h20 0 12) = (h 0 12) ∧ (h20 0 13) = (h 0 13) ∧ (h20 36 8) = (h 36 8) ∧ (h20 46 3) = (h 46 3) ∧ (h20 46 4) = (h 46 4) ∧ (h20 49 4) = (h 49 4) ∧ (h20 49 5) = (h 49 5) ∧ (h20 64 0) = (h 64 0) ∧ (h20 76 0) = (h 76 0) ∧ h20 3 1 = 70), 1000 - x4 < (n15 : Int) → ov_R u d ov_m89 26 [(0, ov_r 3), (1, ov_r 70), (2, ov_r 82), (3, ov_i x3), (4, ov_i x4)] [] z19 h20 (P_Reader_readWalk_3_70_82 F z h) := by
    intro n15
    induction n15 with
    | zero =>
      intro x3 x4 z19 h20 I21 q17 hn22
      exact absurd hn22 (by omega)
    | succ n15 ih16 =>
      intro x3 x4 z19 h20 I21 q17 hn22
      have e23 : h20 3 1 = 70 := by omega
      refine ov_blk (ls2 := [(0, ov_r 3), (1, ov_r 70), (2, ov_r 82), (3, ov_i x3), (4, ov_i x4)]) (st2 := [ov_i 1000, ov_i x4]) (pc2 := 31) b_89_26_2 rfl rfl ?_
      refine ov_icge (tgt := 60) d_89_31 (by decide) (by omega) (by omega) (fun c24 => ?_) (fun c24 => ?_)
      · skip
        refine ov_blk (ls2 := [(0, ov_r 3), (1, ov_r 70), (2, ov_r 82), (3, ov_i x3), (4, ov_i x4)]) (st2 := [ov_r 3]) (pc2 := 61) b_89_60_1 rfl rfl ?_
        refine ov_getf (v := ov_r 1) d_89_61 fl_Reader_9 (zb_3 I21) (zs_3 I21) (congrArg ov_r (rg_3_0 I21)) ?_
        refine ov_cV (as := []) (st := []) (d2 := d - 1) d_89_64 lk_Reader_46 rfl (Nat.le_of_ble_eq_true rfl) (c := 8) (zb_1 I21) (zs_1 I21) ⟨by decide, rfl⟩ (by omega) (c_Tape_clear_1 (d - 1) (by omega) U I21 (ov_kws hw (by decide +kernel))) ?_
        rintro _ z26 h27 ⟨rfl, I28, f25⟩
        show ov_R u d ov_m89 67 [(0, ov_r 3), (1, ov_r 70), (2, ov_r 82), (3, ov_i x3), (4, ov_i x4)] [] z26 h27 (P_Reader_readWalk_3_70_82 F z h)
        have f29 : (h27 1 1) = 0 ∧ (h27 3 2) = (h20 3 2) ∧ (h27 36 7) = (h20 36 7) ∧ (h27 90 2) = (h20 90 2) ∧ (h27 0 10) = (h20 0 10) ∧ (h27 0 11) = (h20 0 11) ∧ (h27 0 12) = (h20 0 12) ∧ (h27 0 13) = (h20 0 13) ∧ (h27 3 1) = (h20 3 1) ∧ (h27 36 8) = (h20 36 8) ∧ (h27 46 3) = (h20 46 3) ∧ (h27 46 4) = (h20 46 4) ∧ (h27 49 4) = (h20 49 4) ∧ (h27 49 5) = (h20 49 5) ∧ (h27 64 0) = (h20 64 0) ∧ (h27 76 0) = (h20 76 0) := f25
        clear f25
        have e30 : h27 3 1 = 70 := by omega
        refine ov_blk (ls2 := [(0, ov_r 3), (1, ov_r 70), (2, ov_r 82), (3, ov_i x3), (4, ov_i x4)]) (st2 := [ov_r 3]) (pc2 := 68) b_89_67_1 rfl rfl ?_
        refine ov_getf (v := ov_i (h27 3 2)) d_89_68 fl_Reader_24 (zb_3 I28) (zs_3 I28) rfl ?_
        have g31 := rg_3_2 I28
        exact ov_reti (st := []) d_89_71 rfl ⟨_, rfl, I28, (by show (h27 1 1) = 0 ∧ (h27 36 7) = (h 36 7) ∧ (h27 90 2) = (h 90 2) ∧ (h27 0 10) = (h 0 10) ∧ (h27 0 11) = (h 0 11) ∧ (h27 0 12) = (h 0 12) ∧ (h27 0 13) = (h 0 13) ∧ (h27 36 8) = (h 36 8) ∧ (h27 46 3) = (h 46 3) ∧ (h27 46 4) = (h 46 4) ∧ (h27 49 4) = (h 49 4) ∧ (h27 49 5) = (h 49 5) ∧ (h27 64 0) = (h 64 0) ∧ (h27 76 0) = (h 76 0); omega)⟩
      · skip
        refine ov_blk (ls2 := [(0, ov_r 3), (1, ov_r 70), (2, ov_r 82), (3, ov_i x3), (4, ov_i x4)]) (st2 := [ov_i x3]) (pc2 := 35) b_89_34_1 rfl rfl ?_
        refine ov_ifeq (tgt := 60) d_89_35 (by decide) (by omega) (fun c32 => ?_) (fun c32 => ?_)
        · skip
          refine ov_blk (ls2 := [(0, ov_r 3), (1, ov_r 70), (2, ov_r 82), (3, ov_i x3), (4, ov_i x4)]) (st2 := [ov_r 3]) (pc2 := 61) b_89_60_1 rfl rfl ?_
          refine ov_getf (v := ov_r 1) d_89_61 fl_Reader_9 (zb_3 I21) (zs_3 I21) (congrArg ov_r (rg_3_0 I21)) ?_
          refine ov_cV (as := []) (st := []) (d2 := d - 1) d_89_64 lk_Reader_46 rfl (Nat.le_of_ble_eq_true rfl) (c := 8) (zb_1 I21) (zs_1 I21) ⟨by decide, rfl⟩ (by omega) (c_Tape_clear_1 (d - 1) (by omega) U I21 (ov_kws hw (by decide +kernel))) ?_
          rintro _ z34 h35 ⟨rfl, I36, f33⟩
          show ov_R u d ov_m89 67 [(0, ov_r 3), (1, ov_r 70), (2, ov_r 82), (3, ov_i x3), (4, ov_i x4)] [] z34 h35 (P_Reader_readWalk_3_70_82 F z h)
          have f37 : (h35 1 1) = 0 ∧ (h35 3 2) = (h20 3 2) ∧ (h35 36 7) = (h20 36 7) ∧ (h35 90 2) = (h20 90 2) ∧ (h35 0 10) = (h20 0 10) ∧ (h35 0 11) = (h20 0 11) ∧ (h35 0 12) = (h20 0 12) ∧ (h35 0 13) = (h20 0 13) ∧ (h35 3 1) = (h20 3 1) ∧ (h35 36 8) = (h20 36 8) ∧ (h35 46 3) = (h20 46 3) ∧ (h35 46 4) = (h20 46 4) ∧ (h35 49 4) = (h20 49 4) ∧ (h35 49 5) = (h20 49 5) ∧ (h35 64 0) = (h20 64 0) ∧ (h35 76 0) = (h20 76 0) := f33
          clear f33
          have e38 : h35 3 1 = 70 := by omega
          refine ov_blk (ls2 := [(0, ov_r 3), (1, ov_r 70), (2, ov_r 82), (3, ov_i x3), (4, ov_i x4)]) (st2 := [ov_r 3]) (pc2 := 68) b_89_67_1 rfl rfl ?_
          refine ov_getf (v := ov_i (h35 3 2)) d_89_68 fl_Reader_24 (zb_3 I36) (zs_3 I36) rfl ?_
          have g39 := rg_3_2 I36
          exact ov_reti (st := []) d_89_71 rfl ⟨_, rfl, I36, (by show (h35 1 1) = 0 ∧ (h35 36 7) = (h 36 7) ∧ (h35 90 2) = (h 90 2) ∧ (h35 0 10) = (h 0 10) ∧ (h35 0 11) = (h 0 11) ∧ (h35 0 12) = (h 0 12) ∧ (h35 0 13) = (h 0 13) ∧ (h35 36 8) = (h 36 8) ∧ (h35 46 3) = (h 46 3) ∧ (h35 46 4) = (h 46 4) ∧ (h35 49 4) = (h 49 4) ∧ (h35 49 5) = (h 49 5) ∧ (h35 64 0) = (h 64 0) ∧ (h35 76 0) = (h 76 0); omega)⟩
        · skip
          refine ov_blk (ls2 := [(0, ov_r 3), (1, ov_r 70), (2, ov_r 82), (3, ov_i x3), (4, ov_i x4)]) (st2 := [ov_r 3]) (pc2 := 39) b_89_38_1 rfl rfl ?_
          refine ov_getf (v := ov_r 1) d_89_39 fl_Reader_9 (zb_3 I21) (zs_3 I21) (congrArg ov_r (rg_3_0 I21)) ?_
          refine ov_getf (v := ov_i (h20 1 2)) d_89_42 fl_Reader_37 (zb_1 I21) (zs_1 I21) rfl ?_
          have g40 := rg_1_2 I21
          refine ov_ifeq (tgt := 60) d_89_45 (by decide) (by omega) (fun c41 => ?_) (fun c41 => ?_)
          · skip
            refine ov_blk (ls2 := [(0, ov_r 3), (1, ov_r 70), (2, ov_r 82), (3, ov_i x3), (4, ov_i x4)]) (st2 := [ov_r 3]) (pc2 := 61) b_89_60_1 rfl rfl ?_
            refine ov_getf (v := ov_r 1) d_89_61 fl_Reader_9 (zb_3 I21) (zs_3 I21) (congrArg ov_r (rg_3_0 I21)) ?_
            refine ov_cV (as := []) (st := []) (d2 := d - 1) d_89_64 lk_Reader_46 rfl (Nat.le_of_ble_eq_true rfl) (c := 8) (zb_1 I21) (zs_1 I21) ⟨by decide, rfl⟩ (by omega) (c_Tape_clear_1 (d - 1) (by omega) U I21 (ov_kws hw (by decide +kernel))) ?_
            rintro _ z43 h44 ⟨rfl, I45, f42⟩
            show ov_R u d ov_m89 67 [(0, ov_r 3), (1, ov_r 70), (2, ov_r 82), (3, ov_i x3), (4, ov_i x4)] [] z43 h44 (P_Reader_readWalk_3_70_82 F z h)
            have f46 : (h44 1 1) = 0 ∧ (h44 3 2) = (h20 3 2) ∧ (h44 36 7) = (h20 36 7) ∧ (h44 90 2) = (h20 90 2) ∧ (h44 0 10) = (h20 0 10) ∧ (h44 0 11) = (h20 0 11) ∧ (h44 0 12) = (h20 0 12) ∧ (h44 0 13) = (h20 0 13) ∧ (h44 3 1) = (h20 3 1) ∧ (h44 36 8) = (h20 36 8) ∧ (h44 46 3) = (h20 46 3) ∧ (h44 46 4) = (h20 46 4) ∧ (h44 49 4) = (h20 49 4) ∧ (h44 49 5) = (h20 49 5) ∧ (h44 64 0) = (h20 64 0) ∧ (h44 76 0) = (h20 76 0) := f42
            clear f42
            have e47 : h44 3 1 = 70 := by omega
            refine ov_blk (ls2 := [(0, ov_r 3), (1, ov_r 70), (2, ov_r 82), (3, ov_i x3), (4, ov_i x4)]) (st2 := [ov_r 3]) (pc2 := 68) b_89_67_1 rfl rfl ?_
            refine ov_getf (v := ov_i (h44 3 2)) d_89_68 fl_Reader_24 (zb_3 I45) (zs_3 I45) rfl ?_
            have g48 := rg_3_2 I45
            exact ov_reti (st := []) d_89_71 rfl ⟨_, rfl, I45, (by show (h44 1 1) = 0 ∧ (h44 36 7) = (h 36 7) ∧ (h44 90 2) = (h 90 2) ∧ (h44 0 10) = (h 0 10) ∧ (h44 0 11) = (h 0 11) ∧ (h44 0 12) = (h 0 12) ∧ (h44 0 13) = (h 0 13) ∧ (h44 36 8) = (h 36 8) ∧ (h44 46 3) = (h 46 3) ∧ (h44 46 4) = (h 46 4) ∧ (h44 49 4) = (h 49 4) ∧ (h44 49 5) = (h 49 5) ∧ (h44 64 0) = (h 64 0) ∧ (h44 76 0) = (h 76 0); omega)⟩
          · skip
            refine ov_blk (ls2 := [(0, ov_r 3), (1, ov_r 70), (2, ov_r 82), (3, ov_i x3), (4, ov_i x4)]) (st2 := [ov_r 82, ov_r 3]) (pc2 := 50) b_89_48_2 rfl rfl ?_
            refine ov_cV (as := [ov_r 82]) (st := []) (d2 := d - 1) d_89_50 lk_Reader_50 rfl (Nat.le_of_ble_eq_true rfl) (c := 6) (zb_3 I21) (zs_3 I21) ⟨by decide, rfl⟩ (by omega) (c_Reader_readStep_3_82_k3_1_70 (d - 1) (by omega) U I21 (ov_kws hw (by decide +kernel)) e23) ?_
            rintro _ z51 h52 ⟨v50, rfl, I53, f49⟩
            show ov_R u d ov_m89 53 [(0, ov_r 3), (1, ov_r 70), (2, ov_r 82), (3, ov_i x3), (4, ov_i x4)] [ov_i v50] z51 h52 (P_Reader_readWalk_3_70_82 F z h)
            have f54 : (v50 = 0 ∧ 1 ≤ (h52 3 2) ∨ v50 = 1) ∧ (h52 36 7) = (h20 36 7) ∧ (h52 1 1) = (h20 1 1) ∧ (h52 90 2) = (h20 90 2) ∧ (h52 0 10) = (h20 0 10) ∧ (h52 0 11) = (h20 0 11) ∧ (h52 0 12) = (h20 0 12) ∧ (h52 0 13) = (h20 0 13) ∧ (h52 3 1) = (h20 3 1) ∧ (h52 36 8) = (h20 36 8) ∧ (h52 46 3) = (h20 46 3) ∧ (h52 46 4) = (h20 46 4) ∧ (h52 49 4) = (h20 49 4) ∧ (h52 49 5) = (h20 49 5) ∧ (h52 64 0) = (h20 64 0) ∧ (h52 76 0) = (h20 76 0) := f49
            clear f49
            have e55 : h52 3 1 = 70 := by omega
            refine ov_blk (ls2 := [(0, ov_r 3), (1, ov_r 70), (2, ov_r 82), (3, ov_i v50), (4, ov_i (x4 + 1))]) (st2 := []) (pc2 := 57) b_89_53_2 rfl rfl ?_
            refine ov_goto (tgt := 26) d_89_57 (by decide) ?_
            exact ih16 v50 (x4 + 1) _ _ I53 (by show (v50 = 0 ∨ v50 = 1) ∧ 0 ≤ (x4 + 1) ∧ (x4 + 1) ≤ 1000 ∧ (h52 36 7) = (h 36 7) ∧ (h52 90 2) = (h 90 2) ∧ (h52 0 10) = (h 0 10) ∧ (h52 0 11) = (h 0 11) ∧ (h52 0 12) = (h 0 12) ∧ (h52 0 13) = (h 0 13) ∧ (h52 36 8) = (h 36 8) ∧ (h52 46 3) = (h 46 3) ∧ (h52 46 4) = (h 46 4) ∧ (h52 49 4) = (h 49 4) ∧ (h52 49 5) = (h 49 5) ∧ (h52 64 0) = (h 64 0) ∧ (h52 76 0) = (h 76 0) ∧ (h52 3 1) = 70; omega) (by omega)
  exact L18 1001 1 0 _ _ I12 (by show (1 = 0 ∨ 1 = 1) ∧ 0 ≤ 0 ∧ 0 ≤ 1000 ∧ (h11 36 7) = (h 36 7) ∧ (h11 90 2) = (h 90 2) ∧ (h11 0 10) = (h 0 10) ∧ (h11 0 11) = (h 0 11) ∧ (h11 0 12) = (h 0 12) ∧ (h11 0 13) = (h 0 13) ∧ (h11 36 8) = (h 36 8) ∧ (h11 46 3) = (h 46 3) ∧ (h11 46 4) = (h 46 4) ∧ (h11 49 4) = (h 49 4) ∧ (h11 49 5) = (h 49 5) ∧ (h11 64 0) = (h 64 0) ∧ (h11 76 0) = (h 76 0) ∧ (h11 3 1) = 70; omega) (by omega)
abbrev P_Reader_readStep_3_86_k3_1_70 (F : ov_H) (z : ov_Z) (h : ov_H)  : Option ov_V → ov_Z → ov_H → Prop := fun r0 z' h' => ∃ r : Int, r0 = some (ov_i r) ∧ ov_I F z' h' ∧ ((r = 0 ∧ 1 ≤ (h' 3 2) ∨ r = 1) ∧ (h' 36 7) = (h 36 7) ∧ (h' 1 1) = (h 1 1) ∧ (h' 90 2) = (h 90 2) ∧ (h' 0 10) = (h 0 10) ∧ (h' 0 11) = (h 0 11) ∧ (h' 0 12) = (h 0 12) ∧ (h' 0 13) = (h 0 13) ∧ (h' 3 1) = (h 3 1) ∧ (h' 36 8) = (h 36 8) ∧ (h' 46 3) = (h 46 3) ∧ (h' 46 4) = (h 46 4) ∧ (h' 49 4) = (h 49 4) ∧ (h' 49 5) = (h 49 5) ∧ (h' 64 0) = (h 64 0) ∧ (h' 76 0) = (h 76 0))
set_option maxHeartbeats 4000000 in
theorem c_Reader_readStep_3_86_k3_1_70 {u : ov_U} {F : ov_H} {z : ov_Z} {h : ov_H} (d : Nat) (hd : 6 ≤ d) (U : ov_cap u) (I : ov_I F z h) (hw : ov_kw 1160568786830044007717928970 F) (k0 : h 3 1 = 70) : ov_T u d ov_m90 [ov_r 3, ov_r 86] z h (P_Reader_readStep_3_86_k3_1_70 F z h) := by
  refine ov_en rfl (Nat.le_of_ble_eq_true rfl) ?_
  show ov_R u d ov_m90 0 [(0, ov_r 3), (1, ov_r 86)] [] z h (P_Reader_readStep_3_86_k3_1_70 F z h)
  refine ov_blk (ls2 := [(0, ov_r 3), (1, ov_r 86)]) (st2 := [ov_r 3]) (pc2 := 1) b_90_0_1 rfl rfl ?_
  refine ov_cV (as := []) (st := []) (d2 := d - 1) d_90_1 lk_Reader_54 rfl (Nat.le_of_ble_eq_true rfl) (c := 6) (zb_3 I) (zs_3 I) ⟨by decide, rfl⟩ (by omega) (c_Reader_wayTold_3_k3_1_70 (d - 1) (by omega) U I k0) ?_
  rintro _ _ _ ⟨v2, rfl, rfl, rfl, f1⟩
  show ov_R u d ov_m90 4 [(0, ov_r 3), (1, ov_r 86)] [ov_i v2] z h (P_Reader_readStep_3_86_k3_1_70 F z h)
  have f3 : -1 ≤ v2 ∧ v2 ≤ 1 := f1
  clear f1
  refine ov_blk (ls2 := [(0, ov_r 3), (1, ov_r 86), (2, ov_i v2)]) (st2 := [ov_i (-1), ov_i v2]) (pc2 := 7) b_90_4_3 rfl rfl ?_
  refine ov_icne (tgt := 16) d_90_7 (by decide) (by omega) (by omega) (fun c4 => ?_) (fun c4 => ?_)
  · skip
    refine ov_blk (ls2 := [(0, ov_r 3), (1, ov_r 86), (2, ov_i v2)]) (st2 := [ov_r 86]) (pc2 := 17) b_90_16_1 rfl rfl ?_
    refine ov_getf (v := ov_i (h 86 1)) d_90_17 fl_Reader_62 (zb_86 I) (zs_86 I) rfl ?_
    have g5 := rg_86_1 I
    refine ov_blk (ls2 := [(0, ov_r 3), (1, ov_r 86), (2, ov_i v2), (3, ov_i (h 86 1))]) (st2 := [ov_r 3]) (pc2 := 22) b_90_20_2 rfl rfl ?_
    refine ov_getf (v := ov_r 70) d_90_22 fl_Reader_15 (zb_3 I) (zs_3 I) (congrArg ov_r k0) ?_
    refine ov_blk (ls2 := [(0, ov_r 3), (1, ov_r 86), (2, ov_i v2), (3, ov_i (h 86 1))]) (st2 := [ov_i v2, ov_i (h 86 1), ov_r 70]) (pc2 := 27) b_90_25_2 rfl rfl ?_
    refine ov_cV (as := [ov_i (h 86 1), ov_i v2]) (st := []) (d2 := d - 1) d_90_27 lk_Reader_65 rfl (Nat.le_of_ble_eq_true rfl) (c := 9) (zb_70 I) (zs_70 I) ⟨by decide, rfl⟩ (by omega) (c_Town_isBeyond_70 (d - 1) (by omega) U I (h 86 1) v2 (by omega) (by omega) (by omega)) ?_
    rintro _ _ _ ⟨v7, rfl, rfl, rfl, f6⟩
    show ov_R u d ov_m90 30 [(0, ov_r 3), (1, ov_r 86), (2, ov_i v2), (3, ov_i (h 86 1))] [ov_i v7] z h (P_Reader_readStep_3_86_k3_1_70 F z h)
    have f8 : (v7 = 0 ∨ v7 = 1) ∧ (v7 = 0 → (v2 = 0 → (h 86 1) % 6 < (h 70 0) - 1 ∧ (h 70 0) ≤ 6) ∧ (¬ v2 = 0 → (h 86 1) / 6 < (h 70 1) - 1 ∧ (h 70 1) ≤ 9)) := f6
    clear f6
    refine ov_ifne (tgt := 45) d_90_30 (by decide) (by omega) (fun c9 => ?_) (fun c9 => ?_)
    · skip
      refine ov_blk (ls2 := [(0, ov_r 3), (1, ov_r 86), (2, ov_i v2), (3, ov_i (h 86 1))]) (st2 := [ov_i 2, ov_r 3]) (pc2 := 47) b_90_45_2 rfl rfl ?_
      refine ov_cV (as := [ov_i 2]) (st := []) (d2 := d - 1) d_90_47 lk_Reader_58 rfl (Nat.le_of_ble_eq_true rfl) (c := 6) (zb_3 I) (zs_3 I) ⟨by decide, rfl⟩ (by omega) (c_Reader_fail_3_k3_1_70 (d - 1) (by omega) U I (ov_kws hw (by decide +kernel)) 2 k0 (by omega) (by omega)) ?_
      rintro _ z12 h13 ⟨v11, rfl, I14, f10⟩
      show ov_R u d ov_m90 50 [(0, ov_r 3), (1, ov_r 86), (2, ov_i v2), (3, ov_i (h 86 1))] [ov_i v11] z12 h13 (P_Reader_readStep_3_86_k3_1_70 F z h)
      have f15 : v11 = 0 ∧ 1 ≤ (h13 3 2) ∧ (h13 36 7) = (h 36 7) ∧ (h13 1 1) = (h 1 1) ∧ (h13 90 2) = (h 90 2) ∧ (h13 0 10) = (h 0 10) ∧ (h13 0 11) = (h 0 11) ∧ (h13 0 12) = (h 0 12) ∧ (h13 0 13) = (h 0 13) ∧ (h13 3 1) = (h 3 1) ∧ (h13 36 8) = (h 36 8) ∧ (h13 46 3) = (h 46 3) ∧ (h13 46 4) = (h 46 4) ∧ (h13 49 4) = (h 49 4) ∧ (h13 49 5) = (h 49 5) ∧ (h13 64 0) = (h 64 0) ∧ (h13 76 0) = (h 76 0) := f10
      clear f10
      have e16 : h13 3 1 = 70 := by omega
      exact ov_retz (st := []) d_90_50 rfl (by omega) ⟨_, rfl, I14, (by show (v11 = 0 ∧ 1 ≤ (h13 3 2) ∨ v11 = 1) ∧ (h13 36 7) = (h 36 7) ∧ (h13 1 1) = (h 1 1) ∧ (h13 90 2) = (h 90 2) ∧ (h13 0 10) = (h 0 10) ∧ (h13 0 11) = (h 0 11) ∧ (h13 0 12) = (h 0 12) ∧ (h13 0 13) = (h 0 13) ∧ (h13 3 1) = (h 3 1) ∧ (h13 36 8) = (h 36 8) ∧ (h13 46 3) = (h 46 3) ∧ (h13 46 4) = (h 46 4) ∧ (h13 49 4) = (h 49 4) ∧ (h13 49 5) = (h 49 5) ∧ (h13 64 0) = (h 64 0) ∧ (h13 76 0) = (h 76 0); omega)⟩
    · skip
      refine ov_blk (ls2 := [(0, ov_r 3), (1, ov_r 86), (2, ov_i v2), (3, ov_i (h 86 1))]) (st2 := [ov_r 3]) (pc2 := 34) b_90_33_1 rfl rfl ?_
      refine ov_getf (v := ov_r 70) d_90_34 fl_Reader_15 (zb_3 I) (zs_3 I) (congrArg ov_r k0) ?_
      refine ov_blk (ls2 := [(0, ov_r 3), (1, ov_r 86), (2, ov_i v2), (3, ov_i (h 86 1))]) (st2 := [ov_i v2, ov_i (h 86 1), ov_r 70]) (pc2 := 39) b_90_37_2 rfl rfl ?_
      refine ov_cV (as := [ov_i (h 86 1), ov_i v2]) (st := []) (d2 := d - 1) d_90_39 lk_Reader_69 rfl (Nat.le_of_ble_eq_true rfl) (c := 9) (zb_70 I) (zs_70 I) ⟨by decide, rfl⟩ (by omega) (c_Town_isBarred_70 (d - 1) (by omega) U I (h 86 1) v2 (by omega) (by omega) (by omega)) ?_
      rintro _ _ _ ⟨v18, rfl, rfl, rfl, f17⟩
      show ov_R u d ov_m90 42 [(0, ov_r 3), (1, ov_r 86), (2, ov_i v2), (3, ov_i (h 86 1))] [ov_i v18] z h (P_Reader_readStep_3_86_k3_1_70 F z h)
      have f19 : (v18 = 0 ∨ v18 = 1) := f17
      clear f17
      refine ov_ifeq (tgt := 51) d_90_42 (by decide) (by omega) (fun c20 => ?_) (fun c20 => ?_)
      · skip
        refine ov_blk (ls2 := [(0, ov_r 3), (1, ov_r 86), (2, ov_i v2), (3, ov_i (h 86 1))]) (st2 := [ov_r 86]) (pc2 := 52) b_90_51_1 rfl rfl ?_
        refine ov_getf (v := ov_i (h 86 0)) d_90_52 fl_Reader_72 (zb_86 I) (zs_86 I) rfl ?_
        have g21 := rg_86_0 I
        refine ov_blk (ls2 := [(0, ov_r 3), (1, ov_r 86), (2, ov_i v2), (3, ov_i (h 86 1))]) (st2 := [ov_i 13, ov_i (h 86 0)]) (pc2 := 57) b_90_55_1 rfl rfl ?_
        refine ov_iclt (tgt := 66) d_90_57 (by decide) (by omega) (by omega) (fun c22 => ?_) (fun c22 => ?_)
        · skip
          refine ov_blk (ls2 := [(0, ov_r 3), (1, ov_r 86), (2, ov_i v2), (3, ov_i (h 86 1))]) (st2 := [ov_r 3]) (pc2 := 67) b_90_66_1 rfl rfl ?_
          refine ov_getf (v := ov_r 1) d_90_67 fl_Reader_9 (zb_3 I) (zs_3 I) (congrArg ov_r (rg_3_0 I)) ?_
          refine ov_cV (as := []) (st := []) (d2 := d - 1) d_90_70 lk_Reader_75 rfl (Nat.le_of_ble_eq_true rfl) (c := 8) (zb_1 I) (zs_1 I) ⟨by decide, rfl⟩ (by omega) (c_Tape_advance_1 (d - 1) (by omega) U I (ov_kws hw (by decide +kernel))) ?_
          rintro _ z24 h25 ⟨rfl, I26, f23⟩
          show ov_R u d ov_m90 73 [(0, ov_r 3), (1, ov_r 86), (2, ov_i v2), (3, ov_i (h 86 1))] [] z24 h25 (P_Reader_readStep_3_86_k3_1_70 F z h)
          have f27 : (h25 3 3) = (h 3 3) ∧ (h25 36 7) = (h 36 7) ∧ (h25 1 1) = (h 1 1) ∧ (h25 90 2) = (h 90 2) ∧ (h25 0 10) = (h 0 10) ∧ (h25 0 11) = (h 0 11) ∧ (h25 0 12) = (h 0 12) ∧ (h25 0 13) = (h 0 13) ∧ (h25 3 1) = (h 3 1) ∧ (h25 36 8) = (h 36 8) ∧ (h25 46 3) = (h 46 3) ∧ (h25 46 4) = (h 46 4) ∧ (h25 49 4) = (h 49 4) ∧ (h25 49 5) = (h 49 5) ∧ (h25 64 0) = (h 64 0) ∧ (h25 76 0) = (h 76 0) := f23
          clear f23
          have e28 : h25 3 1 = 70 := by omega
          refine ov_blk (ls2 := [(0, ov_r 3), (1, ov_r 86), (2, ov_i v2), (3, ov_i (h 86 1))]) (st2 := [ov_i 9999, ov_i 0, ov_r 3]) (pc2 := 78) b_90_73_3 rfl rfl ?_
          refine ov_cV (as := [ov_i 0, ov_i 9999]) (st := []) (d2 := d - 1) d_90_78 lk_Reader_78 rfl (Nat.le_of_ble_eq_true rfl) (c := 6) (zb_3 I26) (zs_3 I26) ⟨by decide, rfl⟩ (by omega) (c_Reader_takeNumber_3_k3_1_70 (d - 1) (by omega) U I26 (ov_kws hw (by decide +kernel)) 0 9999 e28 (by omega) (by omega)) ?_
          rintro _ z31 h32 ⟨v30, rfl, I33, f29⟩
          show ov_R u d ov_m90 81 [(0, ov_r 3), (1, ov_r 86), (2, ov_i v2), (3, ov_i (h 86 1))] [ov_i v30] z31 h32 (P_Reader_readStep_3_86_k3_1_70 F z h)
          have f34 : (v30 = 0 ∧ 1 ≤ (h32 3 2) ∨ v30 = 1 ∧ (0 : Int) ≤ (h32 3 3) ∧ (h32 3 3) ≤ (9999 : Int)) ∧ (h32 36 7) = (h25 36 7) ∧ (h32 1 1) = (h25 1 1) ∧ (h32 90 2) = (h25 90 2) ∧ (h32 0 10) = (h25 0 10) ∧ (h32 0 11) = (h25 0 11) ∧ (h32 0 12) = (h25 0 12) ∧ (h32 0 13) = (h25 0 13) ∧ (h32 3 1) = (h25 3 1) ∧ (h32 36 8) = (h25 36 8) ∧ (h32 46 3) = (h25 46 3) ∧ (h32 46 4) = (h25 46 4) ∧ (h32 49 4) = (h25 49 4) ∧ (h32 49 5) = (h25 49 5) ∧ (h32 64 0) = (h25 64 0) ∧ (h32 76 0) = (h25 76 0) := f29
          clear f29
          have e35 : h32 3 1 = 70 := by omega
          refine ov_ifne (tgt := 86) d_90_81 (by decide) (by omega) (fun c36 => ?_) (fun c36 => ?_)
          · skip
            refine ov_blk (ls2 := [(0, ov_r 3), (1, ov_r 86), (2, ov_i v2), (3, ov_i (h 86 1))]) (st2 := [ov_r 3, ov_i v2, ov_i (h 86 1), ov_r 86]) (pc2 := 90) b_90_86_4 rfl rfl ?_
            refine ov_getf (v := ov_i (h32 3 3)) d_90_90 fl_Reader_81 (zb_3 I33) (zs_3 I33) rfl ?_
            have g37 := rg_3_3 I33
            refine ov_blk (ls2 := [(0, ov_r 3), (1, ov_r 86), (2, ov_i v2), (3, ov_i (h 86 1))]) (st2 := [ov_r 3, ov_i (h32 3 3), ov_i v2, ov_i (h 86 1), ov_r 86]) (pc2 := 94) b_90_93_1 rfl rfl ?_
            refine ov_getf (v := ov_r 70) d_90_94 fl_Reader_15 (zb_3 I33) (zs_3 I33) (congrArg ov_r e35) ?_
            refine ov_blk (ls2 := [(0, ov_r 3), (1, ov_r 86), (2, ov_i v2), (3, ov_i (h 86 1))]) (st2 := [ov_i v2, ov_i (h 86 1), ov_r 70, ov_i (h32 3 3), ov_i v2, ov_i (h 86 1), ov_r 86]) (pc2 := 99) b_90_97_2 rfl rfl ?_
            refine ov_cV (as := [ov_i (h 86 1), ov_i v2]) (st := [ov_i (h32 3 3), ov_i v2, ov_i (h 86 1), ov_r 86]) (d2 := d - 1) d_90_99 lk_Reader_84 rfl (Nat.le_of_ble_eq_true rfl) (c := 9) (zb_70 I33) (zs_70 I33) ⟨by decide, rfl⟩ (by omega) (c_Town_after_70 (d - 1) (by omega) U I33 (h 86 1) v2 (by omega) (by omega) (by omega)) ?_
            rintro _ _ _ ⟨v39, rfl, rfl, rfl, f38⟩
            show ov_R u d ov_m90 102 [(0, ov_r 3), (1, ov_r 86), (2, ov_i v2), (3, ov_i (h 86 1))] [ov_i v39, ov_i (h32 3 3), ov_i v2, ov_i (h 86 1), ov_r 86] z31 h32 (P_Reader_readStep_3_86_k3_1_70 F z h)
            have f40 : (v2 = 0 → v39 = (h 86 1) + 1) ∧ (¬ v2 = 0 → v39 = (h 86 1) + 6) := f38
            clear f38
            refine ov_cV (as := [ov_i (h 86 1), ov_i v2, ov_i (h32 3 3), ov_i v39]) (st := []) (d2 := d - 1) d_90_102 lk_Reader_88 rfl (Nat.le_of_ble_eq_true rfl) (c := 10) (zb_86 I33) (zs_86 I33) ⟨by decide, rfl⟩ (by omega) (c_Walk_add_86 (d - 1) (by omega) U I33 (ov_kws hw (by decide +kernel)) (h 86 1) v2 (h32 3 3) v39 (by omega) (by omega) (by omega) (by omega) (by omega) (by omega) (by omega)) ?_
            rintro _ z42 h43 ⟨rfl, I44, f41⟩
            show ov_R u d ov_m90 105 [(0, ov_r 3), (1, ov_r 86), (2, ov_i v2), (3, ov_i (h 86 1))] [] z42 h43 (P_Reader_readStep_3_86_k3_1_70 F z h)
            have f45 : (h43 36 7) = (h32 36 7) ∧ (h43 1 1) = (h32 1 1) ∧ (h43 90 2) = (h32 90 2) ∧ (h43 0 10) = (h32 0 10) ∧ (h43 0 11) = (h32 0 11) ∧ (h43 0 12) = (h32 0 12) ∧ (h43 0 13) = (h32 0 13) ∧ (h43 3 1) = (h32 3 1) ∧ (h43 36 8) = (h32 36 8) ∧ (h43 46 3) = (h32 46 3) ∧ (h43 46 4) = (h32 46 4) ∧ (h43 49 4) = (h32 49 4) ∧ (h43 49 5) = (h32 49 5) ∧ (h43 64 0) = (h32 64 0) ∧ (h43 76 0) = (h32 76 0) := f41
            clear f41
            have e46 : h43 3 1 = 70 := by omega
            refine ov_blk (ls2 := [(0, ov_r 3), (1, ov_r 86), (2, ov_i v2), (3, ov_i (h 86 1))]) (st2 := [ov_i 59, ov_r 3]) (pc2 := 108) b_90_105_2 rfl rfl ?_
            refine ov_cV (as := [ov_i 59]) (st := []) (d2 := d - 1) d_90_108 lk_Reader_92 rfl (Nat.le_of_ble_eq_true rfl) (c := 6) (zb_3 I44) (zs_3 I44) ⟨by decide, rfl⟩ (by omega) (c_Reader_takeSign_3_k3_1_70 (d - 1) (by omega) U I44 (ov_kws hw (by decide +kernel)) 59 e46 (by omega)) ?_
            rintro _ z49 h50 ⟨v48, rfl, I51, f47⟩
            show ov_R u d ov_m90 111 [(0, ov_r 3), (1, ov_r 86), (2, ov_i v2), (3, ov_i (h 86 1))] [ov_i v48] z49 h50 (P_Reader_readStep_3_86_k3_1_70 F z h)
            have f52 : (v48 = 0 ∧ 1 ≤ (h50 3 2) ∨ v48 = 1) ∧ (h50 36 7) = (h43 36 7) ∧ (h50 1 1) = (h43 1 1) ∧ (h50 90 2) = (h43 90 2) ∧ (h50 0 10) = (h43 0 10) ∧ (h50 0 11) = (h43 0 11) ∧ (h50 0 12) = (h43 0 12) ∧ (h50 0 13) = (h43 0 13) ∧ (h50 3 1) = (h43 3 1) ∧ (h50 36 8) = (h43 36 8) ∧ (h50 46 3) = (h43 46 3) ∧ (h50 46 4) = (h43 46 4) ∧ (h50 49 4) = (h43 49 4) ∧ (h50 49 5) = (h43 49 5) ∧ (h50 64 0) = (h43 64 0) ∧ (h50 76 0) = (h43 76 0) := f47
            clear f47
            have e53 : h50 3 1 = 70 := by omega
            exact ov_retz (st := []) d_90_111 rfl (by omega) ⟨_, rfl, I51, (by show (v48 = 0 ∧ 1 ≤ (h50 3 2) ∨ v48 = 1) ∧ (h50 36 7) = (h 36 7) ∧ (h50 1 1) = (h 1 1) ∧ (h50 90 2) = (h 90 2) ∧ (h50 0 10) = (h 0 10) ∧ (h50 0 11) = (h 0 11) ∧ (h50 0 12) = (h 0 12) ∧ (h50 0 13) = (h 0 13) ∧ (h50 3 1) = (h 3 1) ∧ (h50 36 8) = (h 36 8) ∧ (h50 46 3) = (h 46 3) ∧ (h50 46 4) = (h 46 4) ∧ (h50 49 4) = (h 49 4) ∧ (h50 49 5) = (h 49 5) ∧ (h50 64 0) = (h 64 0) ∧ (h50 76 0) = (h 76 0); omega)⟩
          · skip
            refine ov_blk (ls2 := [(0, ov_r 3), (1, ov_r 86), (2, ov_i v2), (3, ov_i (h 86 1))]) (st2 := [ov_i 0]) (pc2 := 85) b_90_84_1 rfl rfl ?_
            exact ov_retz (st := []) d_90_85 rfl (by omega) ⟨_, rfl, I33, (by show (0 = 0 ∧ 1 ≤ (h32 3 2) ∨ 0 = 1) ∧ (h32 36 7) = (h 36 7) ∧ (h32 1 1) = (h 1 1) ∧ (h32 90 2) = (h 90 2) ∧ (h32 0 10) = (h 0 10) ∧ (h32 0 11) = (h 0 11) ∧ (h32 0 12) = (h 0 12) ∧ (h32 0 13) = (h 0 13) ∧ (h32 3 1) = (h 3 1) ∧ (h32 36 8) = (h 36 8) ∧ (h32 46 3) = (h 46 3) ∧ (h32 46 4) = (h 46 4) ∧ (h32 49 4) = (h 49 4) ∧ (h32 49 5) = (h 49 5) ∧ (h32 64 0) = (h 64 0) ∧ (h32 76 0) = (h 76 0); omega)⟩
        · skip
          refine ov_blk (ls2 := [(0, ov_r 3), (1, ov_r 86), (2, ov_i v2), (3, ov_i (h 86 1))]) (st2 := [ov_i 5, ov_r 3]) (pc2 := 62) b_90_60_2 rfl rfl ?_
          refine ov_cV (as := [ov_i 5]) (st := []) (d2 := d - 1) d_90_62 lk_Reader_58 rfl (Nat.le_of_ble_eq_true rfl) (c := 6) (zb_3 I) (zs_3 I) ⟨by decide, rfl⟩ (by omega) (c_Reader_fail_3_k3_1_70 (d - 1) (by omega) U I (ov_kws hw (by decide +kernel)) 5 k0 (by omega) (by omega)) ?_
          rintro _ z56 h57 ⟨v55, rfl, I58, f54⟩
          show ov_R u d ov_m90 65 [(0, ov_r 3), (1, ov_r 86), (2, ov_i v2), (3, ov_i (h 86 1))] [ov_i v55] z56 h57 (P_Reader_readStep_3_86_k3_1_70 F z h)
          have f59 : v55 = 0 ∧ 1 ≤ (h57 3 2) ∧ (h57 36 7) = (h 36 7) ∧ (h57 1 1) = (h 1 1) ∧ (h57 90 2) = (h 90 2) ∧ (h57 0 10) = (h 0 10) ∧ (h57 0 11) = (h 0 11) ∧ (h57 0 12) = (h 0 12) ∧ (h57 0 13) = (h 0 13) ∧ (h57 3 1) = (h 3 1) ∧ (h57 36 8) = (h 36 8) ∧ (h57 46 3) = (h 46 3) ∧ (h57 46 4) = (h 46 4) ∧ (h57 49 4) = (h 49 4) ∧ (h57 49 5) = (h 49 5) ∧ (h57 64 0) = (h 64 0) ∧ (h57 76 0) = (h 76 0) := f54
          clear f54
          have e60 : h57 3 1 = 70 := by omega
          exact ov_retz (st := []) d_90_65 rfl (by omega) ⟨_, rfl, I58, (by show (v55 = 0 ∧ 1 ≤ (h57 3 2) ∨ v55 = 1) ∧ (h57 36 7) = (h 36 7) ∧ (h57 1 1) = (h 1 1) ∧ (h57 90 2) = (h 90 2) ∧ (h57 0 10) = (h 0 10) ∧ (h57 0 11) = (h 0 11) ∧ (h57 0 12) = (h 0 12) ∧ (h57 0 13) = (h 0 13) ∧ (h57 3 1) = (h 3 1) ∧ (h57 36 8) = (h 36 8) ∧ (h57 46 3) = (h 46 3) ∧ (h57 46 4) = (h 46 4) ∧ (h57 49 4) = (h 49 4) ∧ (h57 49 5) = (h 49 5) ∧ (h57 64 0) = (h 64 0) ∧ (h57 76 0) = (h 76 0); omega)⟩
      · skip
        refine ov_blk (ls2 := [(0, ov_r 3), (1, ov_r 86), (2, ov_i v2), (3, ov_i (h 86 1))]) (st2 := [ov_i 2, ov_r 3]) (pc2 := 47) b_90_45_2 rfl rfl ?_
        refine ov_cV (as := [ov_i 2]) (st := []) (d2 := d - 1) d_90_47 lk_Reader_58 rfl (Nat.le_of_ble_eq_true rfl) (c := 6) (zb_3 I) (zs_3 I) ⟨by decide, rfl⟩ (by omega) (c_Reader_fail_3_k3_1_70 (d - 1) (by omega) U I (ov_kws hw (by decide +kernel)) 2 k0 (by omega) (by omega)) ?_
        rintro _ z63 h64 ⟨v62, rfl, I65, f61⟩
        show ov_R u d ov_m90 50 [(0, ov_r 3), (1, ov_r 86), (2, ov_i v2), (3, ov_i (h 86 1))] [ov_i v62] z63 h64 (P_Reader_readStep_3_86_k3_1_70 F z h)
        have f66 : v62 = 0 ∧ 1 ≤ (h64 3 2) ∧ (h64 36 7) = (h 36 7) ∧ (h64 1 1) = (h 1 1) ∧ (h64 90 2) = (h 90 2) ∧ (h64 0 10) = (h 0 10) ∧ (h64 0 11) = (h 0 11) ∧ (h64 0 12) = (h 0 12) ∧ (h64 0 13) = (h 0 13) ∧ (h64 3 1) = (h 3 1) ∧ (h64 36 8) = (h 36 8) ∧ (h64 46 3) = (h 46 3) ∧ (h64 46 4) = (h 46 4) ∧ (h64 49 4) = (h 49 4) ∧ (h64 49 5) = (h 49 5) ∧ (h64 64 0) = (h 64 0) ∧ (h64 76 0) = (h 76 0) := f61
        clear f61
        have e67 : h64 3 1 = 70 := by omega
        exact ov_retz (st := []) d_90_50 rfl (by omega) ⟨_, rfl, I65, (by show (v62 = 0 ∧ 1 ≤ (h64 3 2) ∨ v62 = 1) ∧ (h64 36 7) = (h 36 7) ∧ (h64 1 1) = (h 1 1) ∧ (h64 90 2) = (h 90 2) ∧ (h64 0 10) = (h 0 10) ∧ (h64 0 11) = (h 0 11) ∧ (h64 0 12) = (h 0 12) ∧ (h64 0 13) = (h 0 13) ∧ (h64 3 1) = (h 3 1) ∧ (h64 36 8) = (h 36 8) ∧ (h64 46 3) = (h 46 3) ∧ (h64 46 4) = (h 46 4) ∧ (h64 49 4) = (h 49 4) ∧ (h64 49 5) = (h 49 5) ∧ (h64 64 0) = (h 64 0) ∧ (h64 76 0) = (h 76 0); omega)⟩
  · skip
    refine ov_blk (ls2 := [(0, ov_r 3), (1, ov_r 86), (2, ov_i v2)]) (st2 := [ov_i 1, ov_r 3]) (pc2 := 12) b_90_10_2 rfl rfl ?_
    refine ov_cV (as := [ov_i 1]) (st := []) (d2 := d - 1) d_90_12 lk_Reader_58 rfl (Nat.le_of_ble_eq_true rfl) (c := 6) (zb_3 I) (zs_3 I) ⟨by decide, rfl⟩ (by omega) (c_Reader_fail_3_k3_1_70 (d - 1) (by omega) U I (ov_kws hw (by decide +kernel)) 1 k0 (by omega) (by omega)) ?_
    rintro _ z70 h71 ⟨v69, rfl, I72, f68⟩
    show ov_R u d ov_m90 15 [(0, ov_r 3), (1, ov_r 86), (2, ov_i v2)] [ov_i v69] z70 h71 (P_Reader_readStep_3_86_k3_1_70 F z h)
    have f73 : v69 = 0 ∧ 1 ≤ (h71 3 2) ∧ (h71 36 7) = (h 36 7) ∧ (h71 1 1) = (h 1 1) ∧ (h71 90 2) = (h 90 2) ∧ (h71 0 10) = (h 0 10) ∧ (h71 0 11) = (h 0 11) ∧ (h71 0 12) = (h 0 12) ∧ (h71 0 13) = (h 0 13) ∧ (h71 3 1) = (h 3 1) ∧ (h71 36 8) = (h 36 8) ∧ (h71 46 3) = (h 46 3) ∧ (h71 46 4) = (h 46 4) ∧ (h71 49 4) = (h 49 4) ∧ (h71 49 5) = (h 49 5) ∧ (h71 64 0) = (h 64 0) ∧ (h71 76 0) = (h 76 0) := f68
    clear f68
    have e74 : h71 3 1 = 70 := by omega
    exact ov_retz (st := []) d_90_15 rfl (by omega) ⟨_, rfl, I72, (by show (v69 = 0 ∧ 1 ≤ (h71 3 2) ∨ v69 = 1) ∧ (h71 36 7) = (h 36 7) ∧ (h71 1 1) = (h 1 1) ∧ (h71 90 2) = (h 90 2) ∧ (h71 0 10) = (h 0 10) ∧ (h71 0 11) = (h 0 11) ∧ (h71 0 12) = (h 0 12) ∧ (h71 0 13) = (h 0 13) ∧ (h71 3 1) = (h 3 1) ∧ (h71 36 8) = (h 36 8) ∧ (h71 46 3) = (h 46 3) ∧ (h71 46 4) = (h 46 4) ∧ (h71 49 4) = (h 49 4) ∧ (h71 49 5) = (h 49 5) ∧ (h71 64 0) = (h 64 0) ∧ (h71 76 0) = (h 76 0); omega)⟩
abbrev P_Reader_readWalk_3_70_86 (F : ov_H) (z : ov_Z) (h : ov_H)  : Option ov_V → ov_Z → ov_H → Prop := fun r0 z' h' => ∃ r : Int, r0 = some (ov_i r) ∧ ov_I F z' h' ∧ ((h' 1 1) = 0 ∧ (h' 36 7) = (h 36 7) ∧ (h' 90 2) = (h 90 2) ∧ (h' 0 10) = (h 0 10) ∧ (h' 0 11) = (h 0 11) ∧ (h' 0 12) = (h 0 12) ∧ (h' 0 13) = (h 0 13) ∧ (h' 36 8) = (h 36 8) ∧ (h' 46 3) = (h 46 3) ∧ (h' 46 4) = (h 46 4) ∧ (h' 49 4) = (h 49 4) ∧ (h' 49 5) = (h 49 5) ∧ (h' 64 0) = (h 64 0) ∧ (h' 76 0) = (h 76 0))
set_option maxHeartbeats 4000000 in
theorem c_Reader_readWalk_3_70_86 {u : ov_U} {F : ov_H} {z : ov_Z} {h : ov_H} (d : Nat) (hd : 7 ≤ d) (U : ov_cap u) (I : ov_I F z h) (hw : ov_kw 1160568786830044007717928970 F) : ov_T u d ov_m89 [ov_r 3, ov_r 70, ov_r 86] z h (P_Reader_readWalk_3_70_86 F z h) := by
  refine ov_en rfl (Nat.le_of_ble_eq_true rfl) ?_
  show ov_R u d ov_m89 0 [(0, ov_r 3), (1, ov_r 70), (2, ov_r 86)] [] z h (P_Reader_readWalk_3_70_86 F z h)
  refine ov_blk (ls2 := [(0, ov_r 3), (1, ov_r 70), (2, ov_r 86)]) (st2 := [ov_r 70, ov_r 3]) (pc2 := 2) b_89_0_2 rfl rfl ?_
  refine ov_putf (x := 70) d_89_2 fl_Reader_15 (zb_3 I) (zs_3 I) rfl nk_2 rfl ?_
  have I1 := up_3_1 (x := 70) I (by omega) (hw 3 (by decide +kernel))
  refine ov_blk (ls2 := [(0, ov_r 3), (1, ov_r 70), (2, ov_r 86)]) (st2 := [ov_r 86]) (pc2 := 6) b_89_5_1 rfl rfl ?_
  refine ov_cV (as := []) (st := []) (d2 := d - 1) d_89_6 lk_Reader_47 rfl (Nat.le_of_ble_eq_true rfl) (c := 10) (zb_86 I1) (zs_86 I1) ⟨by decide, rfl⟩ (by omega) (c_Walk_clear_86 (d - 1) (by omega) U I1 (ov_kws hw (by decide +kernel))) ?_
  rintro _ z3 h4 ⟨rfl, I5, f2⟩
  show ov_R u d ov_m89 9 [(0, ov_r 3), (1, ov_r 70), (2, ov_r 86)] [] z3 h4 (P_Reader_readWalk_3_70_86 F z h)
  have f6 : (h4 36 7) = (h 36 7) ∧ (h4 1 1) = (h 1 1) ∧ (h4 90 2) = (h 90 2) ∧ (h4 0 10) = (h 0 10) ∧ (h4 0 11) = (h 0 11) ∧ (h4 0 12) = (h 0 12) ∧ (h4 0 13) = (h 0 13) ∧ (h4 3 1) = 70 ∧ (h4 36 8) = (h 36 8) ∧ (h4 46 3) = (h 46 3) ∧ (h4 46 4) = (h 46 4) ∧ (h4 49 4) = (h 49 4) ∧ (h4 49 5) = (h 49 5) ∧ (h4 64 0) = (h 64 0) ∧ (h4 76 0) = (h 76 0) := f2
  clear f2
  have e7 : h4 3 1 = 70 := by omega
  refine ov_blk (ls2 := [(0, ov_r 3), (1, ov_r 70), (2, ov_r 86)]) (st2 := [ov_i 0, ov_r 3]) (pc2 := 11) b_89_9_2 rfl rfl ?_
  refine ov_putf (x := 0) d_89_11 fl_Reader_24 (zb_3 I5) (zs_3 I5) rfl nk_0 rfl ?_
  have I8 := up_3_2 (x := 0) I5 (by omega) (hw 3 (by decide +kernel))
  refine ov_blk (ls2 := [(0, ov_r 3), (1, ov_r 70), (2, ov_r 86)]) (st2 := [ov_r 3]) (pc2 := 15) b_89_14_1 rfl rfl ?_
  refine ov_getf (v := ov_r 1) d_89_15 fl_Reader_9 (zb_3 I8) (zs_3 I8) (congrArg ov_r (rg_3_0 I8)) ?_
  refine ov_cV (as := []) (st := []) (d2 := d - 1) d_89_18 lk_Reader_28 rfl (Nat.le_of_ble_eq_true rfl) (c := 8) (zb_1 I8) (zs_1 I8) ⟨by decide, rfl⟩ (by omega) (c_Tape_begin_1 (d - 1) (by omega) U I8 (ov_kws hw (by decide +kernel))) ?_
  rintro _ z10 h11 ⟨rfl, I12, f9⟩
  show ov_R u d ov_m89 21 [(0, ov_r 3), (1, ov_r 70), (2, ov_r 86)] [] z10 h11 (P_Reader_readWalk_3_70_86 F z h)
  have f13 : (h11 3 3) = (h4 3 3) ∧ (h11 36 7) = (h4 36 7) ∧ (h11 1 1) = (h4 1 1) ∧ (h11 90 2) = (h4 90 2) ∧ (h11 0 10) = (h4 0 10) ∧ (h11 0 11) = (h4 0 11) ∧ (h11 0 12) = (h4 0 12) ∧ (h11 0 13) = (h4 0 13) ∧ (h11 3 1) = (h4 3 1) ∧ (h11 36 8) = (h4 36 8) ∧ (h11 46 3) = (h4 46 3) ∧ (h11 46 4) = (h4 46 4) ∧ (h11 49 4) = (h4 49 4) ∧ (h11 49 5) = (h4 49 5) ∧ (h11 64 0) = (h4 64 0) ∧ (h11 76 0) = (h4 76 0) := f9
  clear f9
  have e14 : h11 3 1 = 70 := by omega
  refine ov_blk (ls2 := [(0, ov_r 3), (1, ov_r 70), (2, ov_r 86), (3, ov_i 1), (4, ov_i 0)]) (st2 := []) (pc2 := 26) b_89_21_4 rfl rfl ?_
  have L18 : ∀ (n15 : Nat) (x3 : Int) (x4 : Int) (z19 : ov_Z) (h20 : ov_H) (I21 : ov_I F z19 h20) (q17 : (x3 = 0 ∨ x3 = 1) ∧ 0 ≤ x4 ∧ x4 ≤ 1000 ∧ (h20 36 7) = (h 36 7) ∧ (h20 90 2) = (h 90 2) ∧ (h20 0 10) = (h 0 10) ∧ (h20 0 11) = (h 0 11) ∧ (h20 0 12) = (h 0 12) ∧ (h20 0 13) = (h 0 13) ∧ (h20 36 8) = (h 36 8) ∧ (h20 46 3) = (h 46 3) ∧ (h20 46 4) = (h 46 4) ∧ (h20 49 4) = (h 49 4) ∧ (h20 49 5) = (h 49 5) ∧ (h20 64 0) = (h 64 0) ∧ (h20 76 0) = (h 76 0) ∧ h20 3 1 = 70), 1000 - x4 < (n15 : Int) → ov_R u d ov_m89 26 [(0, ov_r 3), (1, ov_r 70), (2, ov_r 86), (3, ov_i x3), (4, ov_i x4)] [] z19 h20 (P_Reader_readWalk_3_70_86 F z h) := by
    intro n15
    induction n15 with
    | zero =>
      intro x3 x4 z19 h20 I21 q17 hn22
      exact absurd hn22 (by omega)
    | succ n15 ih16 =>
      intro x3 x4 z19 h20 I21 q17 hn22
      have e23 : h20 3 1 = 70 := by omega
      refine ov_blk (ls2 := [(0, ov_r 3), (1, ov_r 70), (2, ov_r 86), (3, ov_i x3), (4, ov_i x4)]) (st2 := [ov_i 1000, ov_i x4]) (pc2 := 31) b_89_26_2 rfl rfl ?_
      refine ov_icge (tgt := 60) d_89_31 (by decide) (by omega) (by omega) (fun c24 => ?_) (fun c24 => ?_)
      · skip
        refine ov_blk (ls2 := [(0, ov_r 3), (1, ov_r 70), (2, ov_r 86), (3, ov_i x3), (4, ov_i x4)]) (st2 := [ov_r 3]) (pc2 := 61) b_89_60_1 rfl rfl ?_
        refine ov_getf (v := ov_r 1) d_89_61 fl_Reader_9 (zb_3 I21) (zs_3 I21) (congrArg ov_r (rg_3_0 I21)) ?_
        refine ov_cV (as := []) (st := []) (d2 := d - 1) d_89_64 lk_Reader_46 rfl (Nat.le_of_ble_eq_true rfl) (c := 8) (zb_1 I21) (zs_1 I21) ⟨by decide, rfl⟩ (by omega) (c_Tape_clear_1 (d - 1) (by omega) U I21 (ov_kws hw (by decide +kernel))) ?_
        rintro _ z26 h27 ⟨rfl, I28, f25⟩
        show ov_R u d ov_m89 67 [(0, ov_r 3), (1, ov_r 70), (2, ov_r 86), (3, ov_i x3), (4, ov_i x4)] [] z26 h27 (P_Reader_readWalk_3_70_86 F z h)
        have f29 : (h27 1 1) = 0 ∧ (h27 3 2) = (h20 3 2) ∧ (h27 36 7) = (h20 36 7) ∧ (h27 90 2) = (h20 90 2) ∧ (h27 0 10) = (h20 0 10) ∧ (h27 0 11) = (h20 0 11) ∧ (h27 0 12) = (h20 0 12) ∧ (h27 0 13) = (h20 0 13) ∧ (h27 3 1) = (h20 3 1) ∧ (h27 36 8) = (h20 36 8) ∧ (h27 46 3) = (h20 46 3) ∧ (h27 46 4) = (h20 46 4) ∧ (h27 49 4) = (h20 49 4) ∧ (h27 49 5) = (h20 49 5) ∧ (h27 64 0) = (h20 64 0) ∧ (h27 76 0) = (h20 76 0) := f25
        clear f25
        have e30 : h27 3 1 = 70 := by omega
        refine ov_blk (ls2 := [(0, ov_r 3), (1, ov_r 70), (2, ov_r 86), (3, ov_i x3), (4, ov_i x4)]) (st2 := [ov_r 3]) (pc2 := 68) b_89_67_1 rfl rfl ?_
        refine ov_getf (v := ov_i (h27 3 2)) d_89_68 fl_Reader_24 (zb_3 I28) (zs_3 I28) rfl ?_
        have g31 := rg_3_2 I28
        exact ov_reti (st := []) d_89_71 rfl ⟨_, rfl, I28, (by show (h27 1 1) = 0 ∧ (h27 36 7) = (h 36 7) ∧ (h27 90 2) = (h 90 2) ∧ (h27 0 10) = (h 0 10) ∧ (h27 0 11) = (h 0 11) ∧ (h27 0 12) = (h 0 12) ∧ (h27 0 13) = (h 0 13) ∧ (h27 36 8) = (h 36 8) ∧ (h27 46 3) = (h 46 3) ∧ (h27 46 4) = (h 46 4) ∧ (h27 49 4) = (h 49 4) ∧ (h27 49 5) = (h 49 5) ∧ (h27 64 0) = (h 64 0) ∧ (h27 76 0) = (h 76 0); omega)⟩
      · skip
        refine ov_blk (ls2 := [(0, ov_r 3), (1, ov_r 70), (2, ov_r 86), (3, ov_i x3), (4, ov_i x4)]) (st2 := [ov_i x3]) (pc2 := 35) b_89_34_1 rfl rfl ?_
        refine ov_ifeq (tgt := 60) d_89_35 (by decide) (by omega) (fun c32 => ?_) (fun c32 => ?_)
        · skip
          refine ov_blk (ls2 := [(0, ov_r 3), (1, ov_r 70), (2, ov_r 86), (3, ov_i x3), (4, ov_i x4)]) (st2 := [ov_r 3]) (pc2 := 61) b_89_60_1 rfl rfl ?_
          refine ov_getf (v := ov_r 1) d_89_61 fl_Reader_9 (zb_3 I21) (zs_3 I21) (congrArg ov_r (rg_3_0 I21)) ?_
          refine ov_cV (as := []) (st := []) (d2 := d - 1) d_89_64 lk_Reader_46 rfl (Nat.le_of_ble_eq_true rfl) (c := 8) (zb_1 I21) (zs_1 I21) ⟨by decide, rfl⟩ (by omega) (c_Tape_clear_1 (d - 1) (by omega) U I21 (ov_kws hw (by decide +kernel))) ?_
          rintro _ z34 h35 ⟨rfl, I36, f33⟩
          show ov_R u d ov_m89 67 [(0, ov_r 3), (1, ov_r 70), (2, ov_r 86), (3, ov_i x3), (4, ov_i x4)] [] z34 h35 (P_Reader_readWalk_3_70_86 F z h)
          have f37 : (h35 1 1) = 0 ∧ (h35 3 2) = (h20 3 2) ∧ (h35 36 7) = (h20 36 7) ∧ (h35 90 2) = (h20 90 2) ∧ (h35 0 10) = (h20 0 10) ∧ (h35 0 11) = (h20 0 11) ∧ (h35 0 12) = (h20 0 12) ∧ (h35 0 13) = (h20 0 13) ∧ (h35 3 1) = (h20 3 1) ∧ (h35 36 8) = (h20 36 8) ∧ (h35 46 3) = (h20 46 3) ∧ (h35 46 4) = (h20 46 4) ∧ (h35 49 4) = (h20 49 4) ∧ (h35 49 5) = (h20 49 5) ∧ (h35 64 0) = (h20 64 0) ∧ (h35 76 0) = (h20 76 0) := f33
          clear f33
          have e38 : h35 3 1 = 70 := by omega
          refine ov_blk (ls2 := [(0, ov_r 3), (1, ov_r 70), (2, ov_r 86), (3, ov_i x3), (4, ov_i x4)]) (st2 := [ov_r 3]) (pc2 := 68) b_89_67_1 rfl rfl ?_
          refine ov_getf (v := ov_i (h35 3 2)) d_89_68 fl_Reader_24 (zb_3 I36) (zs_3 I36) rfl ?_
          have g39 := rg_3_2 I36
          exact ov_reti (st := []) d_89_71 rfl ⟨_, rfl, I36, (by show (h35 1 1) = 0 ∧ (h35 36 7) = (h 36 7) ∧ (h35 90 2) = (h 90 2) ∧ (h35 0 10) = (h 0 10) ∧ (h35 0 11) = (h 0 11) ∧ (h35 0 12) = (h 0 12) ∧ (h35 0 13) = (h 0 13) ∧ (h35 36 8) = (h 36 8) ∧ (h35 46 3) = (h 46 3) ∧ (h35 46 4) = (h 46 4) ∧ (h35 49 4) = (h 49 4) ∧ (h35 49 5) = (h 49 5) ∧ (h35 64 0) = (h 64 0) ∧ (h35 76 0) = (h 76 0); omega)⟩
        · skip
          refine ov_blk (ls2 := [(0, ov_r 3), (1, ov_r 70), (2, ov_r 86), (3, ov_i x3), (4, ov_i x4)]) (st2 := [ov_r 3]) (pc2 := 39) b_89_38_1 rfl rfl ?_
          refine ov_getf (v := ov_r 1) d_89_39 fl_Reader_9 (zb_3 I21) (zs_3 I21) (congrArg ov_r (rg_3_0 I21)) ?_
          refine ov_getf (v := ov_i (h20 1 2)) d_89_42 fl_Reader_37 (zb_1 I21) (zs_1 I21) rfl ?_
          have g40 := rg_1_2 I21
          refine ov_ifeq (tgt := 60) d_89_45 (by decide) (by omega) (fun c41 => ?_) (fun c41 => ?_)
          · skip
            refine ov_blk (ls2 := [(0, ov_r 3), (1, ov_r 70), (2, ov_r 86), (3, ov_i x3), (4, ov_i x4)]) (st2 := [ov_r 3]) (pc2 := 61) b_89_60_1 rfl rfl ?_
            refine ov_getf (v := ov_r 1) d_89_61 fl_Reader_9 (zb_3 I21) (zs_3 I21) (congrArg ov_r (rg_3_0 I21)) ?_
            refine ov_cV (as := []) (st := []) (d2 := d - 1) d_89_64 lk_Reader_46 rfl (Nat.le_of_ble_eq_true rfl) (c := 8) (zb_1 I21) (zs_1 I21) ⟨by decide, rfl⟩ (by omega) (c_Tape_clear_1 (d - 1) (by omega) U I21 (ov_kws hw (by decide +kernel))) ?_
            rintro _ z43 h44 ⟨rfl, I45, f42⟩
            show ov_R u d ov_m89 67 [(0, ov_r 3), (1, ov_r 70), (2, ov_r 86), (3, ov_i x3), (4, ov_i x4)] [] z43 h44 (P_Reader_readWalk_3_70_86 F z h)
            have f46 : (h44 1 1) = 0 ∧ (h44 3 2) = (h20 3 2) ∧ (h44 36 7) = (h20 36 7) ∧ (h44 90 2) = (h20 90 2) ∧ (h44 0 10) = (h20 0 10) ∧ (h44 0 11) = (h20 0 11) ∧ (h44 0 12) = (h20 0 12) ∧ (h44 0 13) = (h20 0 13) ∧ (h44 3 1) = (h20 3 1) ∧ (h44 36 8) = (h20 36 8) ∧ (h44 46 3) = (h20 46 3) ∧ (h44 46 4) = (h20 46 4) ∧ (h44 49 4) = (h20 49 4) ∧ (h44 49 5) = (h20 49 5) ∧ (h44 64 0) = (h20 64 0) ∧ (h44 76 0) = (h20 76 0) := f42
            clear f42
            have e47 : h44 3 1 = 70 := by omega
            refine ov_blk (ls2 := [(0, ov_r 3), (1, ov_r 70), (2, ov_r 86), (3, ov_i x3), (4, ov_i x4)]) (st2 := [ov_r 3]) (pc2 := 68) b_89_67_1 rfl rfl ?_
            refine ov_getf (v := ov_i (h44 3 2)) d_89_68 fl_Reader_24 (zb_3 I45) (zs_3 I45) rfl ?_
            have g48 := rg_3_2 I45
            exact ov_reti (st := []) d_89_71 rfl ⟨_, rfl, I45, (by show (h44 1 1) = 0 ∧ (h44 36 7) = (h 36 7) ∧ (h44 90 2) = (h 90 2) ∧ (h44 0 10) = (h 0 10) ∧ (h44 0 11) = (h 0 11) ∧ (h44 0 12) = (h 0 12) ∧ (h44 0 13) = (h 0 13) ∧ (h44 36 8) = (h 36 8) ∧ (h44 46 3) = (h 46 3) ∧ (h44 46 4) = (h 46 4) ∧ (h44 49 4) = (h 49 4) ∧ (h44 49 5) = (h 49 5) ∧ (h44 64 0) = (h 64 0) ∧ (h44 76 0) = (h 76 0); omega)⟩
          · skip
            refine ov_blk (ls2 := [(0, ov_r 3), (1, ov_r 70), (2, ov_r 86), (3, ov_i x3), (4, ov_i x4)]) (st2 := [ov_r 86, ov_r 3]) (pc2 := 50) b_89_48_2 rfl rfl ?_
            refine ov_cV (as := [ov_r 86]) (st := []) (d2 := d - 1) d_89_50 lk_Reader_50 rfl (Nat.le_of_ble_eq_true rfl) (c := 6) (zb_3 I21) (zs_3 I21) ⟨by decide, rfl⟩ (by omega) (c_Reader_readStep_3_86_k3_1_70 (d - 1) (by omega) U I21 (ov_kws hw (by decide +kernel)) e23) ?_
            rintro _ z51 h52 ⟨v50, rfl, I53, f49⟩
            show ov_R u d ov_m89 53 [(0, ov_r 3), (1, ov_r 70), (2, ov_r 86), (3, ov_i x3), (4, ov_i x4)] [ov_i v50] z51 h52 (P_Reader_readWalk_3_70_86 F z h)
            have f54 : (v50 = 0 ∧ 1 ≤ (h52 3 2) ∨ v50 = 1) ∧ (h52 36 7) = (h20 36 7) ∧ (h52 1 1) = (h20 1 1) ∧ (h52 90 2) = (h20 90 2) ∧ (h52 0 10) = (h20 0 10) ∧ (h52 0 11) = (h20 0 11) ∧ (h52 0 12) = (h20 0 12) ∧ (h52 0 13) = (h20 0 13) ∧ (h52 3 1) = (h20 3 1) ∧ (h52 36 8) = (h20 36 8) ∧ (h52 46 3) = (h20 46 3) ∧ (h52 46 4) = (h20 46 4) ∧ (h52 49 4) = (h20 49 4) ∧ (h52 49 5) = (h20 49 5) ∧ (h52 64 0) = (h20 64 0) ∧ (h52 76 0) = (h20 76 0) := f49
            clear f49
            have e55 : h52 3 1 = 70 := by omega
            refine ov_blk (ls2 := [(0, ov_r 3), (1, ov_r 70), (2, ov_r 86), (3, ov_i v50), (4, ov_i (x4 + 1))]) (st2 := []) (pc2 := 57) b_89_53_2 rfl rfl ?_
            refine ov_goto (tgt := 26) d_89_57 (by decide) ?_
            exact ih16 v50 (x4 + 1) _ _ I53 (by show (v50 = 0 ∨ v50 = 1) ∧ 0 ≤ (x4 + 1) ∧ (x4 + 1) ≤ 1000 ∧ (h52 36 7) = (h 36 7) ∧ (h52 90 2) = (h 90 2) ∧ (h52 0 10) = (h 0 10) ∧ (h52 0 11) = (h 0 11) ∧ (h52 0 12) = (h 0 12) ∧ (h52 0 13) = (h 0 13) ∧ (h52 36 8) = (h 36 8) ∧ (h52 46 3) = (h 46 3) ∧ (h52 46 4) = (h 46 4) ∧ (h52 49 4) = (h 49 4) ∧ (h52 49 5) = (h 49 5) ∧ (h52 64 0) = (h 64 0) ∧ (h52 76 0) = (h 76 0) ∧ (h52 3 1) = 70; omega) (by omega)
  exact L18 1001 1 0 _ _ I12 (by show (1 = 0 ∨ 1 = 1) ∧ 0 ≤ 0 ∧ 0 ≤ 1000 ∧ (h11 36 7) = (h 36 7) ∧ (h11 90 2) = (h 90 2) ∧ (h11 0 10) = (h 0 10) ∧ (h11 0 11) = (h 0 11) ∧ (h11 0 12) = (h 0 12) ∧ (h11 0 13) = (h 0 13) ∧ (h11 36 8) = (h 36 8) ∧ (h11 46 3) = (h 46 3) ∧ (h11 46 4) = (h 46 4) ∧ (h11 49 4) = (h 49 4) ∧ (h11 49 5) = (h 49 5) ∧ (h11 64 0) = (h 64 0) ∧ (h11 76 0) = (h 76 0) ∧ (h11 3 1) = 70; omega) (by omega)
abbrev P_Reader_readTown_3_70 (F : ov_H) (z : ov_Z) (h : ov_H)  : Option ov_V → ov_Z → ov_H → Prop := fun r0 z' h' => ∃ r : Int, r0 = some (ov_i r) ∧ ov_I F z' h' ∧ ((h' 1 1) = 0 ∧ -2147483648 ≤ r ∧ r ≤ 2147483647 ∧ (r = 0 → 0 ≤ (h' 76 0)) ∧ 1 ≤ (h' 70 0) ∧ 1 ≤ (h' 70 1) ∧ (h' 36 7) = (h 36 7) ∧ (h' 90 2) = (h 90 2) ∧ (h' 0 10) = (h 0 10) ∧ (h' 0 11) = (h 0 11) ∧ (h' 0 12) = (h 0 12) ∧ (h' 0 13) = (h 0 13) ∧ (h' 36 8) = (h 36 8) ∧ (h' 46 3) = (h 46 3) ∧ (h' 46 4) = (h 46 4) ∧ (h' 49 4) = (h 49 4) ∧ (h' 49 5) = (h 49 5) ∧ (h' 64 0) = (h 64 0))
set_option maxHeartbeats 4000000 in
theorem c_Reader_readTown_3_70 {u : ov_U} {F : ov_H} {z : ov_Z} {h : ov_H} (d : Nat) (hd : 42 ≤ d) (U : ov_cap u) (I : ov_I F z h) (hw : ov_kw 2416671047608540938108938 F) : ov_T u d ov_m24 [ov_r 3, ov_r 70] z h (P_Reader_readTown_3_70 F z h) := by
  refine ov_en rfl (Nat.le_of_ble_eq_true rfl) ?_
  show ov_R u d ov_m24 0 [(0, ov_r 3), (1, ov_r 70)] [] z h (P_Reader_readTown_3_70 F z h)
  refine ov_blk (ls2 := [(0, ov_r 3), (1, ov_r 70)]) (st2 := [ov_r 70, ov_r 3]) (pc2 := 2) b_24_0_2 rfl rfl ?_
  refine ov_putf (x := 70) d_24_2 fl_Reader_15 (zb_3 I) (zs_3 I) rfl nk_2 rfl ?_
  have I1 := up_3_1 (x := 70) I (by omega) (hw 3 (by decide +kernel))
  refine ov_blk (ls2 := [(0, ov_r 3), (1, ov_r 70)]) (st2 := [ov_r 3]) (pc2 := 6) b_24_5_1 rfl rfl ?_
  refine ov_getf (v := ov_r 70) d_24_6 fl_Reader_15 (zb_3 I1) (zs_3 I1) rfl ?_
  refine ov_cV (as := []) (st := []) (d2 := d - 1) d_24_9 lk_Reader_19 rfl (Nat.le_of_ble_eq_true rfl) (c := 9) (zb_70 I1) (zs_70 I1) ⟨by decide, rfl⟩ (by omega) (c_Town_clear_70 (d - 1) (by omega) U I1 (ov_kws hw (by decide +kernel))) ?_
  rintro _ z3 h4 ⟨rfl, I5, f2⟩
  show ov_R u d ov_m24 12 [(0, ov_r 3), (1, ov_r 70)] [] z3 h4 (P_Reader_readTown_3_70 F z h)
  have f6 : 1 ≤ (h4 70 0) ∧ 1 ≤ (h4 70 1) ∧ (h4 36 7) = (h 36 7) ∧ (h4 1 1) = (h 1 1) ∧ (h4 90 2) = (h 90 2) ∧ (h4 0 10) = (h 0 10) ∧ (h4 0 11) = (h 0 11) ∧ (h4 0 12) = (h 0 12) ∧ (h4 0 13) = (h 0 13) ∧ (h4 3 1) = 70 ∧ (h4 36 8) = (h 36 8) ∧ (h4 46 3) = (h 46 3) ∧ (h4 46 4) = (h 46 4) ∧ (h4 49 4) = (h 49 4) ∧ (h4 49 5) = (h 49 5) ∧ (h4 64 0) = (h 64 0) := f2
  clear f2
  have e7 : h4 3 1 = 70 := by omega
  have I8 := ov_I_fu (T := 70) I5 (by omega)
  refine ov_blk (ls2 := [(0, ov_r 3), (1, ov_r 70)]) (st2 := [ov_i 0, ov_r 3]) (pc2 := 14) b_24_12_2 rfl rfl ?_
  refine ov_putf (x := 0) d_24_14 fl_Reader_24 (zb_3 I8) (zs_3 I8) rfl nk_0 rfl ?_
  have I9 := up_3_2 (x := 0) I8 (by omega) ((ov_kwu hw) 3 (by decide +kernel))
  refine ov_blk (ls2 := [(0, ov_r 3), (1, ov_r 70)]) (st2 := [ov_r 3]) (pc2 := 18) b_24_17_1 rfl rfl ?_
  refine ov_getf (v := ov_r 1) d_24_18 fl_Reader_9 (zb_3 I9) (zs_3 I9) (congrArg ov_r (rg_3_0 I9)) ?_
  refine ov_cV (as := []) (st := []) (d2 := d - 1) d_24_21 lk_Reader_28 rfl (Nat.le_of_ble_eq_true rfl) (c := 8) (zb_1 I9) (zs_1 I9) ⟨by decide, rfl⟩ (by omega) (c_Tape_begin_1 (d - 1) (by omega) U I9 (ov_kws (ov_kwu hw) (by decide +kernel))) ?_
  rintro _ z11 h12 ⟨rfl, I13, f10⟩
  show ov_R u d ov_m24 24 [(0, ov_r 3), (1, ov_r 70)] [] z11 h12 (P_Reader_readTown_3_70 F z h)
  have f14 : (h12 3 3) = (h4 3 3) ∧ (h12 36 7) = (h4 36 7) ∧ (h12 1 1) = (h4 1 1) ∧ (h12 90 2) = (h4 90 2) ∧ (h12 0 10) = (h4 0 10) ∧ (h12 0 11) = (h4 0 11) ∧ (h12 0 12) = (h4 0 12) ∧ (h12 0 13) = (h4 0 13) ∧ (h12 3 1) = (h4 3 1) ∧ (h12 36 8) = (h4 36 8) ∧ (h12 46 3) = (h4 46 3) ∧ (h12 46 4) = (h4 46 4) ∧ (h12 49 4) = (h4 49 4) ∧ (h12 49 5) = (h4 49 5) ∧ (h12 64 0) = (h4 64 0) ∧ (h12 76 0) = (h4 76 0) := f10
  clear f10
  have e15 : h12 3 1 = 70 := by omega
  refine ov_blk (ls2 := [(0, ov_r 3), (1, ov_r 70)]) (st2 := [ov_r 3]) (pc2 := 25) b_24_24_1 rfl rfl ?_
  refine ov_cV (as := []) (st := []) (d2 := d - 1) d_24_25 lk_Reader_33 rfl (Nat.le_of_ble_eq_true rfl) (c := 6) (zb_3 I13) (zs_3 I13) ⟨by decide, rfl⟩ (by omega) (c_Reader_readSize_3_k3_1_70 (d - 1) (by omega) U I13 (ov_kws (ov_kwu hw) (by decide +kernel)) e15) ?_
  rintro _ z18 h19 ⟨v17, rfl, I20, f16⟩
  show ov_R u d ov_m24 28 [(0, ov_r 3), (1, ov_r 70)] [ov_i v17] z18 h19 (P_Reader_readTown_3_70 F z h)
  have f21 : (v17 = 0 ∧ 1 ≤ (h19 3 2) ∨ v17 = 1) ∧ (h19 36 7) = (h12 36 7) ∧ (h19 1 1) = (h12 1 1) ∧ (h19 90 2) = (h12 90 2) ∧ (h19 0 10) = (h12 0 10) ∧ (h19 0 11) = (h12 0 11) ∧ (h19 0 12) = (h12 0 12) ∧ (h19 0 13) = (h12 0 13) ∧ (h19 3 1) = (h12 3 1) ∧ (h19 36 8) = (h12 36 8) ∧ (h19 46 3) = (h12 46 3) ∧ (h19 46 4) = (h12 46 4) ∧ (h19 49 4) = (h12 49 4) ∧ (h19 49 5) = (h12 49 5) ∧ (h19 64 0) = (h12 64 0) ∧ (h19 76 0) = (h12 76 0) := f16
  clear f16
  have e22 : h19 3 1 = 70 := by omega
  refine ov_blk (ls2 := [(0, ov_r 3), (1, ov_r 70), (2, ov_i v17), (3, ov_i 0)]) (st2 := []) (pc2 := 31) b_24_28_3 rfl rfl ?_
  have L26 : ∀ (n23 : Nat) (x2 : Int) (x3 : Int) (z27 : ov_Z) (h28 : ov_H) (I29 : ov_I (ov_up F (-5) 70 1) z27 h28) (q25 : (x2 = 0 ∧ 1 ≤ (h28 3 2) ∨ x2 = 1) ∧ 0 ≤ x3 ∧ x3 ≤ 1000 ∧ (h28 36 7) = (h 36 7) ∧ (h28 90 2) = (h 90 2) ∧ (h28 0 10) = (h 0 10) ∧ (h28 0 11) = (h 0 11) ∧ (h28 0 12) = (h 0 12) ∧ (h28 0 13) = (h 0 13) ∧ (h28 36 8) = (h 36 8) ∧ (h28 46 3) = (h 46 3) ∧ (h28 46 4) = (h 46 4) ∧ (h28 49 4) = (h 49 4) ∧ (h28 49 5) = (h 49 5) ∧ (h28 64 0) = (h 64 0) ∧ h28 3 1 = 70), 1000 - x3 < (n23 : Int) → ov_R u d ov_m24 31 [(0, ov_r 3), (1, ov_r 70), (2, ov_i x2), (3, ov_i x3)] [] z27 h28 (P_Reader_readTown_3_70 F z h) := by
    intro n23
    induction n23 with
    | zero =>
      intro x2 x3 z27 h28 I29 q25 hn30
      exact absurd hn30 (by omega)
    | succ n23 ih24 =>
      intro x2 x3 z27 h28 I29 q25 hn30
      have e31 : h28 3 1 = 70 := by omega
      refine ov_blk (ls2 := [(0, ov_r 3), (1, ov_r 70), (2, ov_i x2), (3, ov_i x3)]) (st2 := [ov_i 1000, ov_i x3]) (pc2 := 35) b_24_31_2 rfl rfl ?_
      refine ov_icge (tgt := 63) d_24_35 (by decide) (by omega) (by omega) (fun c32 => ?_) (fun c32 => ?_)
      · skip
        refine ov_blk (ls2 := [(0, ov_r 3), (1, ov_r 70), (2, ov_i x2), (3, ov_i x3)]) (st2 := [ov_i x2]) (pc2 := 64) b_24_63_1 rfl rfl ?_
        refine ov_ifeq (tgt := 74) d_24_64 (by decide) (by omega) (fun c33 => ?_) (fun c33 => ?_)
        · skip
          refine ov_blk (ls2 := [(0, ov_r 3), (1, ov_r 70), (2, ov_i x2), (3, ov_i x3)]) (st2 := [ov_r 3]) (pc2 := 75) b_24_74_1 rfl rfl ?_
          refine ov_getf (v := ov_r 1) d_24_75 fl_Reader_9 (zb_3 I29) (zs_3 I29) (congrArg ov_r (rg_3_0 I29)) ?_
          refine ov_cV (as := []) (st := []) (d2 := d - 1) d_24_78 lk_Reader_46 rfl (Nat.le_of_ble_eq_true rfl) (c := 8) (zb_1 I29) (zs_1 I29) ⟨by decide, rfl⟩ (by omega) (c_Tape_clear_1 (d - 1) (by omega) U I29 (ov_kws (ov_kwu hw) (by decide +kernel))) ?_
          rintro _ z35 h36 ⟨rfl, I37, f34⟩
          show ov_R u d ov_m24 81 [(0, ov_r 3), (1, ov_r 70), (2, ov_i x2), (3, ov_i x3)] [] z35 h36 (P_Reader_readTown_3_70 F z h)
          have f38 : (h36 1 1) = 0 ∧ (h36 3 2) = (h28 3 2) ∧ (h36 36 7) = (h28 36 7) ∧ (h36 90 2) = (h28 90 2) ∧ (h36 0 10) = (h28 0 10) ∧ (h36 0 11) = (h28 0 11) ∧ (h36 0 12) = (h28 0 12) ∧ (h36 0 13) = (h28 0 13) ∧ (h36 3 1) = (h28 3 1) ∧ (h36 36 8) = (h28 36 8) ∧ (h36 46 3) = (h28 46 3) ∧ (h36 46 4) = (h28 46 4) ∧ (h36 49 4) = (h28 49 4) ∧ (h36 49 5) = (h28 49 5) ∧ (h36 64 0) = (h28 64 0) ∧ (h36 76 0) = (h28 76 0) := f34
          clear f34
          have e39 : h36 3 1 = 70 := by omega
          refine ov_blk (ls2 := [(0, ov_r 3), (1, ov_r 70), (2, ov_i x2), (3, ov_i x3)]) (st2 := [ov_r 3]) (pc2 := 82) b_24_81_1 rfl rfl ?_
          refine ov_getf (v := ov_i (h36 3 2)) d_24_82 fl_Reader_24 (zb_3 I37) (zs_3 I37) rfl ?_
          have g40 := rg_3_2 I37
          have gf41 : 1 ≤ (h36 70 0) ∧ 1 ≤ (h36 70 1) := ov_I_fg (h := h36) (T := 70) (by omega) I37
          exact ov_reti (st := []) d_24_85 rfl ⟨_, rfl, (ov_I_fd I37), (by show (h36 1 1) = 0 ∧ -2147483648 ≤ (h36 3 2) ∧ (h36 3 2) ≤ 2147483647 ∧ ((h36 3 2) = 0 → 0 ≤ (h36 76 0)) ∧ 1 ≤ (h36 70 0) ∧ 1 ≤ (h36 70 1) ∧ (h36 36 7) = (h 36 7) ∧ (h36 90 2) = (h 90 2) ∧ (h36 0 10) = (h 0 10) ∧ (h36 0 11) = (h 0 11) ∧ (h36 0 12) = (h 0 12) ∧ (h36 0 13) = (h 0 13) ∧ (h36 36 8) = (h 36 8) ∧ (h36 46 3) = (h 46 3) ∧ (h36 46 4) = (h 46 4) ∧ (h36 49 4) = (h 49 4) ∧ (h36 49 5) = (h 49 5) ∧ (h36 64 0) = (h 64 0); omega)⟩
        · skip
          refine ov_blk (ls2 := [(0, ov_r 3), (1, ov_r 70), (2, ov_i x2), (3, ov_i x3)]) (st2 := [ov_r 3]) (pc2 := 68) b_24_67_1 rfl rfl ?_
          refine ov_getf (v := ov_r 70) d_24_68 fl_Reader_15 (zb_3 I29) (zs_3 I29) (congrArg ov_r e31) ?_
          refine ov_cV (as := []) (st := []) (d2 := d - 1) d_24_71 lk_Reader_43 rfl (Nat.le_of_ble_eq_true rfl) (c := 9) (zb_70 I29) (zs_70 I29) ⟨by decide, rfl⟩ (by omega) (c_Town_complete_70 (d - 1) (by omega) U I29 (ov_kws (ov_kwu hw) (by decide +kernel))) ?_
          rintro _ z43 h44 ⟨rfl, I45, f42⟩
          show ov_R u d ov_m24 74 [(0, ov_r 3), (1, ov_r 70), (2, ov_i x2), (3, ov_i x3)] [] z43 h44 (P_Reader_readTown_3_70 F z h)
          have f46 : 0 ≤ (h44 76 0) ∧ (h44 36 7) = (h28 36 7) ∧ (h44 1 1) = (h28 1 1) ∧ (h44 90 2) = (h28 90 2) ∧ (h44 0 10) = (h28 0 10) ∧ (h44 0 11) = (h28 0 11) ∧ (h44 0 12) = (h28 0 12) ∧ (h44 0 13) = (h28 0 13) ∧ (h44 3 1) = (h28 3 1) ∧ (h44 36 8) = (h28 36 8) ∧ (h44 46 3) = (h28 46 3) ∧ (h44 46 4) = (h28 46 4) ∧ (h44 49 4) = (h28 49 4) ∧ (h44 49 5) = (h28 49 5) ∧ (h44 64 0) = (h28 64 0) := f42
          clear f42
          have e47 : h44 3 1 = 70 := by omega
          refine ov_blk (ls2 := [(0, ov_r 3), (1, ov_r 70), (2, ov_i x2), (3, ov_i x3)]) (st2 := [ov_r 3]) (pc2 := 75) b_24_74_1 rfl rfl ?_
          refine ov_getf (v := ov_r 1) d_24_75 fl_Reader_9 (zb_3 I45) (zs_3 I45) (congrArg ov_r (rg_3_0 I45)) ?_
          refine ov_cV (as := []) (st := []) (d2 := d - 1) d_24_78 lk_Reader_46 rfl (Nat.le_of_ble_eq_true rfl) (c := 8) (zb_1 I45) (zs_1 I45) ⟨by decide, rfl⟩ (by omega) (c_Tape_clear_1 (d - 1) (by omega) U I45 (ov_kws (ov_kwu hw) (by decide +kernel))) ?_
          rintro _ z49 h50 ⟨rfl, I51, f48⟩
          show ov_R u d ov_m24 81 [(0, ov_r 3), (1, ov_r 70), (2, ov_i x2), (3, ov_i x3)] [] z49 h50 (P_Reader_readTown_3_70 F z h)
          have f52 : (h50 1 1) = 0 ∧ (h50 3 2) = (h44 3 2) ∧ (h50 36 7) = (h44 36 7) ∧ (h50 90 2) = (h44 90 2) ∧ (h50 0 10) = (h44 0 10) ∧ (h50 0 11) = (h44 0 11) ∧ (h50 0 12) = (h44 0 12) ∧ (h50 0 13) = (h44 0 13) ∧ (h50 3 1) = (h44 3 1) ∧ (h50 36 8) = (h44 36 8) ∧ (h50 46 3) = (h44 46 3) ∧ (h50 46 4) = (h44 46 4) ∧ (h50 49 4) = (h44 49 4) ∧ (h50 49 5) = (h44 49 5) ∧ (h50 64 0) = (h44 64 0) ∧ (h50 76 0) = (h44 76 0) := f48
          clear f48
          have e53 : h50 3 1 = 70 := by omega
          refine ov_blk (ls2 := [(0, ov_r 3), (1, ov_r 70), (2, ov_i x2), (3, ov_i x3)]) (st2 := [ov_r 3]) (pc2 := 82) b_24_81_1 rfl rfl ?_
          refine ov_getf (v := ov_i (h50 3 2)) d_24_82 fl_Reader_24 (zb_3 I51) (zs_3 I51) rfl ?_
          have g54 := rg_3_2 I51
          have gf55 : 1 ≤ (h50 70 0) ∧ 1 ≤ (h50 70 1) := ov_I_fg (h := h50) (T := 70) (by omega) I51
          exact ov_reti (st := []) d_24_85 rfl ⟨_, rfl, (ov_I_fd I51), (by show (h50 1 1) = 0 ∧ -2147483648 ≤ (h50 3 2) ∧ (h50 3 2) ≤ 2147483647 ∧ ((h50 3 2) = 0 → 0 ≤ (h50 76 0)) ∧ 1 ≤ (h50 70 0) ∧ 1 ≤ (h50 70 1) ∧ (h50 36 7) = (h 36 7) ∧ (h50 90 2) = (h 90 2) ∧ (h50 0 10) = (h 0 10) ∧ (h50 0 11) = (h 0 11) ∧ (h50 0 12) = (h 0 12) ∧ (h50 0 13) = (h 0 13) ∧ (h50 36 8) = (h 36 8) ∧ (h50 46 3) = (h 46 3) ∧ (h50 46 4) = (h 46 4) ∧ (h50 49 4) = (h 49 4) ∧ (h50 49 5) = (h 49 5) ∧ (h50 64 0) = (h 64 0); omega)⟩
      · skip
        refine ov_blk (ls2 := [(0, ov_r 3), (1, ov_r 70), (2, ov_i x2), (3, ov_i x3)]) (st2 := [ov_i x2]) (pc2 := 39) b_24_38_1 rfl rfl ?_
        refine ov_ifeq (tgt := 63) d_24_39 (by decide) (by omega) (fun c56 => ?_) (fun c56 => ?_)
        · skip
          refine ov_blk (ls2 := [(0, ov_r 3), (1, ov_r 70), (2, ov_i x2), (3, ov_i x3)]) (st2 := [ov_i x2]) (pc2 := 64) b_24_63_1 rfl rfl ?_
          refine ov_ifeq (tgt := 74) d_24_64 (by decide) (by omega) (fun c57 => ?_) (fun c57 => ?_)
          · skip
            refine ov_blk (ls2 := [(0, ov_r 3), (1, ov_r 70), (2, ov_i x2), (3, ov_i x3)]) (st2 := [ov_r 3]) (pc2 := 75) b_24_74_1 rfl rfl ?_
            refine ov_getf (v := ov_r 1) d_24_75 fl_Reader_9 (zb_3 I29) (zs_3 I29) (congrArg ov_r (rg_3_0 I29)) ?_
            refine ov_cV (as := []) (st := []) (d2 := d - 1) d_24_78 lk_Reader_46 rfl (Nat.le_of_ble_eq_true rfl) (c := 8) (zb_1 I29) (zs_1 I29) ⟨by decide, rfl⟩ (by omega) (c_Tape_clear_1 (d - 1) (by omega) U I29 (ov_kws (ov_kwu hw) (by decide +kernel))) ?_
            rintro _ z59 h60 ⟨rfl, I61, f58⟩
            show ov_R u d ov_m24 81 [(0, ov_r 3), (1, ov_r 70), (2, ov_i x2), (3, ov_i x3)] [] z59 h60 (P_Reader_readTown_3_70 F z h)
            have f62 : (h60 1 1) = 0 ∧ (h60 3 2) = (h28 3 2) ∧ (h60 36 7) = (h28 36 7) ∧ (h60 90 2) = (h28 90 2) ∧ (h60 0 10) = (h28 0 10) ∧ (h60 0 11) = (h28 0 11) ∧ (h60 0 12) = (h28 0 12) ∧ (h60 0 13) = (h28 0 13) ∧ (h60 3 1) = (h28 3 1) ∧ (h60 36 8) = (h28 36 8) ∧ (h60 46 3) = (h28 46 3) ∧ (h60 46 4) = (h28 46 4) ∧ (h60 49 4) = (h28 49 4) ∧ (h60 49 5) = (h28 49 5) ∧ (h60 64 0) = (h28 64 0) ∧ (h60 76 0) = (h28 76 0) := f58
            clear f58
            have e63 : h60 3 1 = 70 := by omega
            refine ov_blk (ls2 := [(0, ov_r 3), (1, ov_r 70), (2, ov_i x2), (3, ov_i x3)]) (st2 := [ov_r 3]) (pc2 := 82) b_24_81_1 rfl rfl ?_
            refine ov_getf (v := ov_i (h60 3 2)) d_24_82 fl_Reader_24 (zb_3 I61) (zs_3 I61) rfl ?_
            have g64 := rg_3_2 I61
            have gf65 : 1 ≤ (h60 70 0) ∧ 1 ≤ (h60 70 1) := ov_I_fg (h := h60) (T := 70) (by omega) I61
            exact ov_reti (st := []) d_24_85 rfl ⟨_, rfl, (ov_I_fd I61), (by show (h60 1 1) = 0 ∧ -2147483648 ≤ (h60 3 2) ∧ (h60 3 2) ≤ 2147483647 ∧ ((h60 3 2) = 0 → 0 ≤ (h60 76 0)) ∧ 1 ≤ (h60 70 0) ∧ 1 ≤ (h60 70 1) ∧ (h60 36 7) = (h 36 7) ∧ (h60 90 2) = (h 90 2) ∧ (h60 0 10) = (h 0 10) ∧ (h60 0 11) = (h 0 11) ∧ (h60 0 12) = (h 0 12) ∧ (h60 0 13) = (h 0 13) ∧ (h60 36 8) = (h 36 8) ∧ (h60 46 3) = (h 46 3) ∧ (h60 46 4) = (h 46 4) ∧ (h60 49 4) = (h 49 4) ∧ (h60 49 5) = (h 49 5) ∧ (h60 64 0) = (h 64 0); omega)⟩
          · skip
            refine ov_blk (ls2 := [(0, ov_r 3), (1, ov_r 70), (2, ov_i x2), (3, ov_i x3)]) (st2 := [ov_r 3]) (pc2 := 68) b_24_67_1 rfl rfl ?_
            refine ov_getf (v := ov_r 70) d_24_68 fl_Reader_15 (zb_3 I29) (zs_3 I29) (congrArg ov_r e31) ?_
            refine ov_cV (as := []) (st := []) (d2 := d - 1) d_24_71 lk_Reader_43 rfl (Nat.le_of_ble_eq_true rfl) (c := 9) (zb_70 I29) (zs_70 I29) ⟨by decide, rfl⟩ (by omega) (c_Town_complete_70 (d - 1) (by omega) U I29 (ov_kws (ov_kwu hw) (by decide +kernel))) ?_
            rintro _ z67 h68 ⟨rfl, I69, f66⟩
            show ov_R u d ov_m24 74 [(0, ov_r 3), (1, ov_r 70), (2, ov_i x2), (3, ov_i x3)] [] z67 h68 (P_Reader_readTown_3_70 F z h)
            have f70 : 0 ≤ (h68 76 0) ∧ (h68 36 7) = (h28 36 7) ∧ (h68 1 1) = (h28 1 1) ∧ (h68 90 2) = (h28 90 2) ∧ (h68 0 10) = (h28 0 10) ∧ (h68 0 11) = (h28 0 11) ∧ (h68 0 12) = (h28 0 12) ∧ (h68 0 13) = (h28 0 13) ∧ (h68 3 1) = (h28 3 1) ∧ (h68 36 8) = (h28 36 8) ∧ (h68 46 3) = (h28 46 3) ∧ (h68 46 4) = (h28 46 4) ∧ (h68 49 4) = (h28 49 4) ∧ (h68 49 5) = (h28 49 5) ∧ (h68 64 0) = (h28 64 0) := f66
            clear f66
            have e71 : h68 3 1 = 70 := by omega
            refine ov_blk (ls2 := [(0, ov_r 3), (1, ov_r 70), (2, ov_i x2), (3, ov_i x3)]) (st2 := [ov_r 3]) (pc2 := 75) b_24_74_1 rfl rfl ?_
            refine ov_getf (v := ov_r 1) d_24_75 fl_Reader_9 (zb_3 I69) (zs_3 I69) (congrArg ov_r (rg_3_0 I69)) ?_
            refine ov_cV (as := []) (st := []) (d2 := d - 1) d_24_78 lk_Reader_46 rfl (Nat.le_of_ble_eq_true rfl) (c := 8) (zb_1 I69) (zs_1 I69) ⟨by decide, rfl⟩ (by omega) (c_Tape_clear_1 (d - 1) (by omega) U I69 (ov_kws (ov_kwu hw) (by decide +kernel))) ?_
            rintro _ z73 h74 ⟨rfl, I75, f72⟩
            show ov_R u d ov_m24 81 [(0, ov_r 3), (1, ov_r 70), (2, ov_i x2), (3, ov_i x3)] [] z73 h74 (P_Reader_readTown_3_70 F z h)
            have f76 : (h74 1 1) = 0 ∧ (h74 3 2) = (h68 3 2) ∧ (h74 36 7) = (h68 36 7) ∧ (h74 90 2) = (h68 90 2) ∧ (h74 0 10) = (h68 0 10) ∧ (h74 0 11) = (h68 0 11) ∧ (h74 0 12) = (h68 0 12) ∧ (h74 0 13) = (h68 0 13) ∧ (h74 3 1) = (h68 3 1) ∧ (h74 36 8) = (h68 36 8) ∧ (h74 46 3) = (h68 46 3) ∧ (h74 46 4) = (h68 46 4) ∧ (h74 49 4) = (h68 49 4) ∧ (h74 49 5) = (h68 49 5) ∧ (h74 64 0) = (h68 64 0) ∧ (h74 76 0) = (h68 76 0) := f72
            clear f72
            have e77 : h74 3 1 = 70 := by omega
            refine ov_blk (ls2 := [(0, ov_r 3), (1, ov_r 70), (2, ov_i x2), (3, ov_i x3)]) (st2 := [ov_r 3]) (pc2 := 82) b_24_81_1 rfl rfl ?_
            refine ov_getf (v := ov_i (h74 3 2)) d_24_82 fl_Reader_24 (zb_3 I75) (zs_3 I75) rfl ?_
            have g78 := rg_3_2 I75
            have gf79 : 1 ≤ (h74 70 0) ∧ 1 ≤ (h74 70 1) := ov_I_fg (h := h74) (T := 70) (by omega) I75
            exact ov_reti (st := []) d_24_85 rfl ⟨_, rfl, (ov_I_fd I75), (by show (h74 1 1) = 0 ∧ -2147483648 ≤ (h74 3 2) ∧ (h74 3 2) ≤ 2147483647 ∧ ((h74 3 2) = 0 → 0 ≤ (h74 76 0)) ∧ 1 ≤ (h74 70 0) ∧ 1 ≤ (h74 70 1) ∧ (h74 36 7) = (h 36 7) ∧ (h74 90 2) = (h 90 2) ∧ (h74 0 10) = (h 0 10) ∧ (h74 0 11) = (h 0 11) ∧ (h74 0 12) = (h 0 12) ∧ (h74 0 13) = (h 0 13) ∧ (h74 36 8) = (h 36 8) ∧ (h74 46 3) = (h 46 3) ∧ (h74 46 4) = (h 46 4) ∧ (h74 49 4) = (h 49 4) ∧ (h74 49 5) = (h 49 5) ∧ (h74 64 0) = (h 64 0); omega)⟩
        · skip
          refine ov_blk (ls2 := [(0, ov_r 3), (1, ov_r 70), (2, ov_i x2), (3, ov_i x3)]) (st2 := [ov_r 3]) (pc2 := 43) b_24_42_1 rfl rfl ?_
          refine ov_getf (v := ov_r 1) d_24_43 fl_Reader_9 (zb_3 I29) (zs_3 I29) (congrArg ov_r (rg_3_0 I29)) ?_
          refine ov_getf (v := ov_i (h28 1 2)) d_24_46 fl_Reader_37 (zb_1 I29) (zs_1 I29) rfl ?_
          have g80 := rg_1_2 I29
          refine ov_ifeq (tgt := 63) d_24_49 (by decide) (by omega) (fun c81 => ?_) (fun c81 => ?_)
          · skip
            refine ov_blk (ls2 := [(0, ov_r 3), (1, ov_r 70), (2, ov_i x2), (3, ov_i x3)]) (st2 := [ov_i x2]) (pc2 := 64) b_24_63_1 rfl rfl ?_
            refine ov_ifeq (tgt := 74) d_24_64 (by decide) (by omega) (fun c82 => ?_) (fun c82 => ?_)
            · skip
              refine ov_blk (ls2 := [(0, ov_r 3), (1, ov_r 70), (2, ov_i x2), (3, ov_i x3)]) (st2 := [ov_r 3]) (pc2 := 75) b_24_74_1 rfl rfl ?_
              refine ov_getf (v := ov_r 1) d_24_75 fl_Reader_9 (zb_3 I29) (zs_3 I29) (congrArg ov_r (rg_3_0 I29)) ?_
              refine ov_cV (as := []) (st := []) (d2 := d - 1) d_24_78 lk_Reader_46 rfl (Nat.le_of_ble_eq_true rfl) (c := 8) (zb_1 I29) (zs_1 I29) ⟨by decide, rfl⟩ (by omega) (c_Tape_clear_1 (d - 1) (by omega) U I29 (ov_kws (ov_kwu hw) (by decide +kernel))) ?_
              rintro _ z84 h85 ⟨rfl, I86, f83⟩
              show ov_R u d ov_m24 81 [(0, ov_r 3), (1, ov_r 70), (2, ov_i x2), (3, ov_i x3)] [] z84 h85 (P_Reader_readTown_3_70 F z h)
              have f87 : (h85 1 1) = 0 ∧ (h85 3 2) = (h28 3 2) ∧ (h85 36 7) = (h28 36 7) ∧ (h85 90 2) = (h28 90 2) ∧ (h85 0 10) = (h28 0 10) ∧ (h85 0 11) = (h28 0 11) ∧ (h85 0 12) = (h28 0 12) ∧ (h85 0 13) = (h28 0 13) ∧ (h85 3 1) = (h28 3 1) ∧ (h85 36 8) = (h28 36 8) ∧ (h85 46 3) = (h28 46 3) ∧ (h85 46 4) = (h28 46 4) ∧ (h85 49 4) = (h28 49 4) ∧ (h85 49 5) = (h28 49 5) ∧ (h85 64 0) = (h28 64 0) ∧ (h85 76 0) = (h28 76 0) := f83
              clear f83
              have e88 : h85 3 1 = 70 := by omega
              refine ov_blk (ls2 := [(0, ov_r 3), (1, ov_r 70), (2, ov_i x2), (3, ov_i x3)]) (st2 := [ov_r 3]) (pc2 := 82) b_24_81_1 rfl rfl ?_
              refine ov_getf (v := ov_i (h85 3 2)) d_24_82 fl_Reader_24 (zb_3 I86) (zs_3 I86) rfl ?_
              have g89 := rg_3_2 I86
              have gf90 : 1 ≤ (h85 70 0) ∧ 1 ≤ (h85 70 1) := ov_I_fg (h := h85) (T := 70) (by omega) I86
              exact ov_reti (st := []) d_24_85 rfl ⟨_, rfl, (ov_I_fd I86), (by show (h85 1 1) = 0 ∧ -2147483648 ≤ (h85 3 2) ∧ (h85 3 2) ≤ 2147483647 ∧ ((h85 3 2) = 0 → 0 ≤ (h85 76 0)) ∧ 1 ≤ (h85 70 0) ∧ 1 ≤ (h85 70 1) ∧ (h85 36 7) = (h 36 7) ∧ (h85 90 2) = (h 90 2) ∧ (h85 0 10) = (h 0 10) ∧ (h85 0 11) = (h 0 11) ∧ (h85 0 12) = (h 0 12) ∧ (h85 0 13) = (h 0 13) ∧ (h85 36 8) = (h 36 8) ∧ (h85 46 3) = (h 46 3) ∧ (h85 46 4) = (h 46 4) ∧ (h85 49 4) = (h 49 4) ∧ (h85 49 5) = (h 49 5) ∧ (h85 64 0) = (h 64 0); omega)⟩
            · skip
              refine ov_blk (ls2 := [(0, ov_r 3), (1, ov_r 70), (2, ov_i x2), (3, ov_i x3)]) (st2 := [ov_r 3]) (pc2 := 68) b_24_67_1 rfl rfl ?_
              refine ov_getf (v := ov_r 70) d_24_68 fl_Reader_15 (zb_3 I29) (zs_3 I29) (congrArg ov_r e31) ?_
              refine ov_cV (as := []) (st := []) (d2 := d - 1) d_24_71 lk_Reader_43 rfl (Nat.le_of_ble_eq_true rfl) (c := 9) (zb_70 I29) (zs_70 I29) ⟨by decide, rfl⟩ (by omega) (c_Town_complete_70 (d - 1) (by omega) U I29 (ov_kws (ov_kwu hw) (by decide +kernel))) ?_
              rintro _ z92 h93 ⟨rfl, I94, f91⟩
              show ov_R u d ov_m24 74 [(0, ov_r 3), (1, ov_r 70), (2, ov_i x2), (3, ov_i x3)] [] z92 h93 (P_Reader_readTown_3_70 F z h)
              have f95 : 0 ≤ (h93 76 0) ∧ (h93 36 7) = (h28 36 7) ∧ (h93 1 1) = (h28 1 1) ∧ (h93 90 2) = (h28 90 2) ∧ (h93 0 10) = (h28 0 10) ∧ (h93 0 11) = (h28 0 11) ∧ (h93 0 12) = (h28 0 12) ∧ (h93 0 13) = (h28 0 13) ∧ (h93 3 1) = (h28 3 1) ∧ (h93 36 8) = (h28 36 8) ∧ (h93 46 3) = (h28 46 3) ∧ (h93 46 4) = (h28 46 4) ∧ (h93 49 4) = (h28 49 4) ∧ (h93 49 5) = (h28 49 5) ∧ (h93 64 0) = (h28 64 0) := f91
              clear f91
              have e96 : h93 3 1 = 70 := by omega
              refine ov_blk (ls2 := [(0, ov_r 3), (1, ov_r 70), (2, ov_i x2), (3, ov_i x3)]) (st2 := [ov_r 3]) (pc2 := 75) b_24_74_1 rfl rfl ?_
              refine ov_getf (v := ov_r 1) d_24_75 fl_Reader_9 (zb_3 I94) (zs_3 I94) (congrArg ov_r (rg_3_0 I94)) ?_
              refine ov_cV (as := []) (st := []) (d2 := d - 1) d_24_78 lk_Reader_46 rfl (Nat.le_of_ble_eq_true rfl) (c := 8) (zb_1 I94) (zs_1 I94) ⟨by decide, rfl⟩ (by omega) (c_Tape_clear_1 (d - 1) (by omega) U I94 (ov_kws (ov_kwu hw) (by decide +kernel))) ?_
              rintro _ z98 h99 ⟨rfl, I100, f97⟩
              show ov_R u d ov_m24 81 [(0, ov_r 3), (1, ov_r 70), (2, ov_i x2), (3, ov_i x3)] [] z98 h99 (P_Reader_readTown_3_70 F z h)
              have f101 : (h99 1 1) = 0 ∧ (h99 3 2) = (h93 3 2) ∧ (h99 36 7) = (h93 36 7) ∧ (h99 90 2) = (h93 90 2) ∧ (h99 0 10) = (h93 0 10) ∧ (h99 0 11) = (h93 0 11) ∧ (h99 0 12) = (h93 0 12) ∧ (h99 0 13) = (h93 0 13) ∧ (h99 3 1) = (h93 3 1) ∧ (h99 36 8) = (h93 36 8) ∧ (h99 46 3) = (h93 46 3) ∧ (h99 46 4) = (h93 46 4) ∧ (h99 49 4) = (h93 49 4) ∧ (h99 49 5) = (h93 49 5) ∧ (h99 64 0) = (h93 64 0) ∧ (h99 76 0) = (h93 76 0) := f97
              clear f97
              have e102 : h99 3 1 = 70 := by omega
              refine ov_blk (ls2 := [(0, ov_r 3), (1, ov_r 70), (2, ov_i x2), (3, ov_i x3)]) (st2 := [ov_r 3]) (pc2 := 82) b_24_81_1 rfl rfl ?_
              refine ov_getf (v := ov_i (h99 3 2)) d_24_82 fl_Reader_24 (zb_3 I100) (zs_3 I100) rfl ?_
              have g103 := rg_3_2 I100
              have gf104 : 1 ≤ (h99 70 0) ∧ 1 ≤ (h99 70 1) := ov_I_fg (h := h99) (T := 70) (by omega) I100
              exact ov_reti (st := []) d_24_85 rfl ⟨_, rfl, (ov_I_fd I100), (by show (h99 1 1) = 0 ∧ -2147483648 ≤ (h99 3 2) ∧ (h99 3 2) ≤ 2147483647 ∧ ((h99 3 2) = 0 → 0 ≤ (h99 76 0)) ∧ 1 ≤ (h99 70 0) ∧ 1 ≤ (h99 70 1) ∧ (h99 36 7) = (h 36 7) ∧ (h99 90 2) = (h 90 2) ∧ (h99 0 10) = (h 0 10) ∧ (h99 0 11) = (h 0 11) ∧ (h99 0 12) = (h 0 12) ∧ (h99 0 13) = (h 0 13) ∧ (h99 36 8) = (h 36 8) ∧ (h99 46 3) = (h 46 3) ∧ (h99 46 4) = (h 46 4) ∧ (h99 49 4) = (h 49 4) ∧ (h99 49 5) = (h 49 5) ∧ (h99 64 0) = (h 64 0); omega)⟩
          · skip
            refine ov_blk (ls2 := [(0, ov_r 3), (1, ov_r 70), (2, ov_i x2), (3, ov_i x3)]) (st2 := [ov_r 3]) (pc2 := 53) b_24_52_1 rfl rfl ?_
            refine ov_cV (as := []) (st := []) (d2 := d - 1) d_24_53 lk_Reader_40 rfl (Nat.le_of_ble_eq_true rfl) (c := 6) (zb_3 I29) (zs_3 I29) ⟨by decide, rfl⟩ (by omega) (c_Reader_readLine_3_k3_1_70 (d - 1) (by omega) U I29 (ov_kws (ov_kwu hw) (by decide +kernel)) e31) ?_
            rintro _ z107 h108 ⟨v106, rfl, I109, f105⟩
            show ov_R u d ov_m24 56 [(0, ov_r 3), (1, ov_r 70), (2, ov_i x2), (3, ov_i x3)] [ov_i v106] z107 h108 (P_Reader_readTown_3_70 F z h)
            have f110 : (v106 = 0 ∧ 1 ≤ (h108 3 2) ∨ v106 = 1) ∧ (h108 36 7) = (h28 36 7) ∧ (h108 1 1) = (h28 1 1) ∧ (h108 90 2) = (h28 90 2) ∧ (h108 0 10) = (h28 0 10) ∧ (h108 0 11) = (h28 0 11) ∧ (h108 0 12) = (h28 0 12) ∧ (h108 0 13) = (h28 0 13) ∧ (h108 3 1) = (h28 3 1) ∧ (h108 36 8) = (h28 36 8) ∧ (h108 46 3) = (h28 46 3) ∧ (h108 46 4) = (h28 46 4) ∧ (h108 49 4) = (h28 49 4) ∧ (h108 49 5) = (h28 49 5) ∧ (h108 64 0) = (h28 64 0) := f105
            clear f105
            have e111 : h108 3 1 = 70 := by omega
            refine ov_blk (ls2 := [(0, ov_r 3), (1, ov_r 70), (2, ov_i v106), (3, ov_i (x3 + 1))]) (st2 := []) (pc2 := 60) b_24_56_2 rfl rfl ?_
            refine ov_goto (tgt := 31) d_24_60 (by decide) ?_
            exact ih24 v106 (x3 + 1) _ _ I109 (by show (v106 = 0 ∧ 1 ≤ (h108 3 2) ∨ v106 = 1) ∧ 0 ≤ (x3 + 1) ∧ (x3 + 1) ≤ 1000 ∧ (h108 36 7) = (h 36 7) ∧ (h108 90 2) = (h 90 2) ∧ (h108 0 10) = (h 0 10) ∧ (h108 0 11) = (h 0 11) ∧ (h108 0 12) = (h 0 12) ∧ (h108 0 13) = (h 0 13) ∧ (h108 36 8) = (h 36 8) ∧ (h108 46 3) = (h 46 3) ∧ (h108 46 4) = (h 46 4) ∧ (h108 49 4) = (h 49 4) ∧ (h108 49 5) = (h 49 5) ∧ (h108 64 0) = (h 64 0) ∧ (h108 3 1) = 70; omega) (by omega)
  exact L26 1001 v17 0 _ _ I20 (by show (v17 = 0 ∧ 1 ≤ (h19 3 2) ∨ v17 = 1) ∧ 0 ≤ 0 ∧ 0 ≤ 1000 ∧ (h19 36 7) = (h 36 7) ∧ (h19 90 2) = (h 90 2) ∧ (h19 0 10) = (h 0 10) ∧ (h19 0 11) = (h 0 11) ∧ (h19 0 12) = (h 0 12) ∧ (h19 0 13) = (h 0 13) ∧ (h19 36 8) = (h 36 8) ∧ (h19 46 3) = (h 46 3) ∧ (h19 46 4) = (h 46 4) ∧ (h19 49 4) = (h 49 4) ∧ (h19 49 5) = (h 49 5) ∧ (h19 64 0) = (h 64 0) ∧ (h19 3 1) = 70; omega) (by omega)

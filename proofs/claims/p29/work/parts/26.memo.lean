theorem b_128_0_1 : ov_ds ov_m128.2.1 0 [.iload_n 2] = true := by decide +kernel
theorem d_128_1 : decode ov_m128.2.1 1 = .ok (.ifCond .lt 36, 3) := by decide +kernel
theorem b_128_37_1 : ov_ds ov_m128.2.1 37 [.iconst 0] = true := by decide +kernel
theorem d_128_38 : decode ov_m128.2.1 38 = .ok (.ireturn, 1) := by decide +kernel
theorem b_128_4_2 : ov_ds ov_m128.2.1 4 [.iload_n 2, .aload_n 0] = true := by decide +kernel
theorem d_128_6 : decode ov_m128.2.1 6 = .ok (.getfield 9, 3) := by decide +kernel
theorem d_128_9 : decode ov_m128.2.1 9 = .ok (.arraylength, 1) := by decide +kernel
theorem d_128_10 : decode ov_m128.2.1 10 = .ok (.if_icmp .ge 27, 3) := by decide +kernel
theorem b_128_13_1 : ov_ds ov_m128.2.1 13 [.aload_n 0] = true := by decide +kernel
theorem d_128_14 : decode ov_m128.2.1 14 = .ok (.getfield 9, 3) := by decide +kernel
theorem b_128_17_1 : ov_ds ov_m128.2.1 17 [.iload_n 2] = true := by decide +kernel
theorem d_128_18 : decode ov_m128.2.1 18 = .ok (.laload, 1) := by decide +kernel
theorem b_128_19_3 : ov_ds ov_m128.2.1 19 [.bipush 32, .lshr, .aload_n 0] = true := by decide +kernel
theorem d_128_23 : decode ov_m128.2.1 23 = .ok (.getfield 15, 3) := by decide +kernel
theorem b_128_26_1 : ov_ds ov_m128.2.1 26 [.iload_n 1] = true := by decide +kernel
theorem d_128_27 : decode ov_m128.2.1 27 = .ok (.iaload, 1) := by decide +kernel
theorem b_128_28_2 : ov_ds ov_m128.2.1 28 [.i2l, .lcmp] = true := by decide +kernel
theorem d_128_30 : decode ov_m128.2.1 30 = .ok (.ifCond .ne 7, 3) := by decide +kernel
theorem b_128_33_1 : ov_ds ov_m128.2.1 33 [.iconst 1] = true := by decide +kernel
theorem d_128_34 : decode ov_m128.2.1 34 = .ok (.goto 4, 3) := by decide +kernel
theorem b_129_0_1 : ov_ds ov_m129.2.1 0 [.aload_n 0] = true := by decide +kernel
theorem d_129_1 : decode ov_m129.2.1 1 = .ok (.getfield 9, 3) := by decide +kernel
theorem b_129_4_1 : ov_ds ov_m129.2.1 4 [.iload_n 1] = true := by decide +kernel
theorem d_129_5 : decode ov_m129.2.1 5 = .ok (.laload, 1) := by decide +kernel
theorem b_129_6_1 : ov_ds ov_m129.2.1 6 [.l2i] = true := by decide +kernel
theorem d_129_7 : decode ov_m129.2.1 7 = .ok (.ireturn, 1) := by decide +kernel
theorem b_141_0_1 : ov_ds ov_m141.2.1 0 [.iload_n 2] = true := by decide +kernel
theorem d_141_1 : decode ov_m141.2.1 1 = .ok (.ifCond .lt 35, 3) := by decide +kernel
theorem d_141_36 : decode ov_m141.2.1 36 = .ok (.return_, 1) := by decide +kernel
theorem b_141_4_2 : ov_ds ov_m141.2.1 4 [.iload_n 2, .aload_n 0] = true := by decide +kernel
theorem d_141_6 : decode ov_m141.2.1 6 = .ok (.getfield 9, 3) := by decide +kernel
theorem d_141_9 : decode ov_m141.2.1 9 = .ok (.arraylength, 1) := by decide +kernel
theorem d_141_10 : decode ov_m141.2.1 10 = .ok (.if_icmp .ge 26, 3) := by decide +kernel
theorem b_141_13_1 : ov_ds ov_m141.2.1 13 [.aload_n 0] = true := by decide +kernel
theorem d_141_14 : decode ov_m141.2.1 14 = .ok (.getfield 9, 3) := by decide +kernel
theorem b_141_17_2 : ov_ds ov_m141.2.1 17 [.iload_n 2, .aload_n 0] = true := by decide +kernel
theorem d_141_19 : decode ov_m141.2.1 19 = .ok (.getfield 15, 3) := by decide +kernel
theorem b_141_22_1 : ov_ds ov_m141.2.1 22 [.iload_n 1] = true := by decide +kernel
theorem d_141_23 : decode ov_m141.2.1 23 = .ok (.iaload, 1) := by decide +kernel
theorem b_141_24_5 : ov_ds ov_m141.2.1 24 [.i2l, .bipush 32, .lshl, .iload_n 3, .i2l] = true := by decide +kernel
theorem d_141_30 : decode ov_m141.2.1 30 = .ok (.ldc2_w 35, 3) := by decide +kernel
theorem b_141_33_2 : ov_ds ov_m141.2.1 33 [.land, .lor] = true := by decide +kernel
theorem d_141_35 : decode ov_m141.2.1 35 = .ok (.lastore, 1) := by decide +kernel
theorem b_148_0_2 : ov_ds ov_m148.2.1 0 [.aload_n 0, .dup] = true := by decide +kernel
theorem d_148_2 : decode ov_m148.2.1 2 = .ok (.getfield 25, 3) := by decide +kernel
theorem b_148_5_2 : ov_ds ov_m148.2.1 5 [.iconst 1, .iadd] = true := by decide +kernel
theorem d_148_7 : decode ov_m148.2.1 7 = .ok (.putfield 25, 3) := by decide +kernel
theorem b_148_10_2 : ov_ds ov_m148.2.1 10 [.iconst 0, .istore_n 2] = true := by decide +kernel
theorem b_148_12_2 : ov_ds ov_m148.2.1 12 [.iload_n 2, .iload_n 1] = true := by decide +kernel
theorem d_148_14 : decode ov_m148.2.1 14 = .ok (.if_icmp .gt 30, 3) := by decide +kernel
theorem d_148_44 : decode ov_m148.2.1 44 = .ok (.return_, 1) := by decide +kernel
theorem b_148_17_2 : ov_ds ov_m148.2.1 17 [.iload_n 2, .bipush 6] = true := by decide +kernel
theorem d_148_20 : decode ov_m148.2.1 20 = .ok (.irem, 1) := by decide +kernel
theorem b_148_21_2 : ov_ds ov_m148.2.1 21 [.iload_n 1, .bipush 6] = true := by decide +kernel
theorem d_148_24 : decode ov_m148.2.1 24 = .ok (.irem, 1) := by decide +kernel
theorem d_148_25 : decode ov_m148.2.1 25 = .ok (.if_icmp .gt 13, 3) := by decide +kernel
theorem b_148_38_1 : ov_ds ov_m148.2.1 38 [.iinc 2 1] = true := by decide +kernel
theorem d_148_41 : decode ov_m148.2.1 41 = .ok (.goto (-29), 3) := by decide +kernel
theorem b_148_28_1 : ov_ds ov_m148.2.1 28 [.aload_n 0] = true := by decide +kernel
theorem d_148_29 : decode ov_m148.2.1 29 = .ok (.getfield 15, 3) := by decide +kernel
theorem b_148_32_2 : ov_ds ov_m148.2.1 32 [.iload_n 2, .aload_n 0] = true := by decide +kernel
theorem d_148_34 : decode ov_m148.2.1 34 = .ok (.getfield 25, 3) := by decide +kernel
theorem d_148_37 : decode ov_m148.2.1 37 = .ok (.iastore, 1) := by decide +kernel
theorem b_124_0_2 : ov_ds ov_m124.2.1 0 [.iload_n 1, .aload_n 0] = true := by decide +kernel
theorem d_124_2 : decode ov_m124.2.1 2 = .ok (.getfield 9, 3) := by decide +kernel
theorem d_124_5 : decode ov_m124.2.1 5 = .ok (.arraylength, 1) := by decide +kernel
theorem d_124_6 : decode ov_m124.2.1 6 = .ok (.if_icmp .le 20, 3) := by decide +kernel
theorem b_124_26_2 : ov_ds ov_m124.2.1 26 [.aload_n 0, .dup] = true := by decide +kernel
theorem d_124_28 : decode ov_m124.2.1 28 = .ok (.getfield 25, 3) := by decide +kernel
theorem b_124_31_2 : ov_ds ov_m124.2.1 31 [.iconst 1, .iadd] = true := by decide +kernel
theorem d_124_33 : decode ov_m124.2.1 33 = .ok (.putfield 25, 3) := by decide +kernel
theorem b_124_36_1 : ov_ds ov_m124.2.1 36 [.aload_n 0] = true := by decide +kernel
theorem d_124_37 : decode ov_m124.2.1 37 = .ok (.getfield 15, 3) := by decide +kernel
theorem b_124_40_1 : ov_ds ov_m124.2.1 40 [.aload_n 0] = true := by decide +kernel
theorem d_124_41 : decode ov_m124.2.1 41 = .ok (.getfield 25, 3) := by decide +kernel
theorem d_124_44 : decode ov_m124.2.1 44 = .ok (.invokestatic 29, 3) := by decide +kernel
theorem d_124_47 : decode ov_m124.2.1 47 = .ok (.return_, 1) := by decide +kernel
theorem b_124_9_4 : ov_ds ov_m124.2.1 9 [.aload_n 0, .iload_n 1, .iconst 2, .aload_n 0] = true := by decide +kernel
theorem d_124_13 : decode ov_m124.2.1 13 = .ok (.getfield 9, 3) := by decide +kernel
theorem d_124_16 : decode ov_m124.2.1 16 = .ok (.arraylength, 1) := by decide +kernel
theorem b_124_17_1 : ov_ds ov_m124.2.1 17 [.imul] = true := by decide +kernel
theorem d_124_18 : decode ov_m124.2.1 18 = .ok (.invokestatic 19, 3) := by decide +kernel
theorem d_124_21 : decode ov_m124.2.1 21 = .ok (.newarray .long, 2) := by decide +kernel
theorem d_124_23 : decode ov_m124.2.1 23 = .ok (.putfield 9, 3) := by decide +kernel
abbrev P_Memo_holds_37 (F : ov_H) (z : ov_Z) (h : ov_H) (g : Int) (c : Int) : Option ov_V → ov_Z → ov_H → Prop := fun r0 z' h' => ∃ r : Int, r0 = some (ov_i r) ∧ z = z' ∧ h = h' ∧ ((r = 0 ∨ r = 1) ∧ (r = 1 → 0 ≤ c ∧ c < (((z.2.2 (h 37 0)).2 : Nat) : Int)))
set_option maxHeartbeats 4000000 in
theorem c_Memo_holds_37 {u : ov_U} {F : ov_H} {z : ov_Z} {h : ov_H} (d : Nat) (hd : 0 ≤ d) (U : ov_cap u) (I : ov_I F z h) (g : Int) (c : Int) (g_g : ov_g g) (g_c : ov_g c) (p0 : 0 ≤ g ∧ g ≤ 53) : ov_T u d ov_m128 [ov_r 37, ov_i g, ov_i c] z h (P_Memo_holds_37 F z h g c) := by
  refine ov_en rfl (Nat.le_of_ble_eq_true rfl) ?_
  show ov_R u d ov_m128 0 [(0, ov_r 37), (1, ov_i g), (2, ov_i c)] [] z h (P_Memo_holds_37 F z h g c)
  refine ov_blk (ls2 := [(0, ov_r 37), (1, ov_i g), (2, ov_i c)]) (st2 := [ov_i c]) (pc2 := 1) b_128_0_1 rfl rfl ?_
  refine ov_iflt (tgt := 37) d_128_1 (by decide) (by omega) (fun c1 => ?_) (fun c1 => ?_)
  · skip
    refine ov_blk (ls2 := [(0, ov_r 37), (1, ov_i g), (2, ov_i c)]) (st2 := [ov_i 0]) (pc2 := 38) b_128_37_1 rfl rfl ?_
    exact ov_retz (st := []) d_128_38 rfl (by omega) ⟨_, rfl, rfl, rfl, (by show (0 = 0 ∨ 0 = 1) ∧ (0 = 1 → 0 ≤ c ∧ c < (((z.2.2 (h 37 0)).2 : Nat) : Int)); omega)⟩
  · skip
    refine ov_blk (ls2 := [(0, ov_r 37), (1, ov_i g), (2, ov_i c)]) (st2 := [ov_r 37, ov_i c]) (pc2 := 6) b_128_4_2 rfl rfl ?_
    refine ov_getf (v := ov_r (h 37 0)) d_128_6 fl_Memo_9 (zb_37 I) (zs_37 I) rfl ?_
    refine ov_alen d_128_9 (mm_37 I).1 (mm_37 I).2.1 (by decide) ?_
    show ov_R u d ov_m128 10 [(0, ov_r 37), (1, ov_i g), (2, ov_i c)] [ov_i (((z.2.2 (h 37 0)).2 : Nat) : Int), ov_i c] z h (P_Memo_holds_37 F z h g c)
    have g2 := (mm_37 I).2.2.1
    refine ov_icge (tgt := 37) d_128_10 (by decide) (by omega) (by omega) (fun c3 => ?_) (fun c3 => ?_)
    · skip
      refine ov_blk (ls2 := [(0, ov_r 37), (1, ov_i g), (2, ov_i c)]) (st2 := [ov_i 0]) (pc2 := 38) b_128_37_1 rfl rfl ?_
      exact ov_retz (st := []) d_128_38 rfl (by omega) ⟨_, rfl, rfl, rfl, (by show (0 = 0 ∨ 0 = 1) ∧ (0 = 1 → 0 ≤ c ∧ c < (((z.2.2 (h 37 0)).2 : Nat) : Int)); omega)⟩
    · skip
      refine ov_blk (ls2 := [(0, ov_r 37), (1, ov_i g), (2, ov_i c)]) (st2 := [ov_r 37]) (pc2 := 14) b_128_13_1 rfl rfl ?_
      refine ov_getf (v := ov_r (h 37 0)) d_128_14 fl_Memo_9 (zb_37 I) (zs_37 I) rfl ?_
      refine ov_blk (ls2 := [(0, ov_r 37), (1, ov_i g), (2, ov_i c)]) (st2 := [ov_i c, ov_r (h 37 0)]) (pc2 := 18) b_128_17_1 rfl rfl ?_
      refine ov_lald d_128_18 (mm_37 I).1 (mm_37 I).2.1 (by omega) ?_
      refine ov_blk (ls2 := [(0, ov_r 37), (1, ov_i g), (2, ov_i c)]) (st2 := [ov_r 37, ov_l (ov_lshr (h (h 37 0) c) 32)]) (pc2 := 23) b_128_19_3 rfl rfl ?_
      refine ov_getf (v := ov_r 39) d_128_23 fl_Memo_15 (zb_37 I) (zs_37 I) (congrArg ov_r (rg_37_1 I)) ?_
      refine ov_blk (ls2 := [(0, ov_r 37), (1, ov_i g), (2, ov_i c)]) (st2 := [ov_i g, ov_r 39, ov_l (ov_lshr (h (h 37 0) c) 32)]) (pc2 := 27) b_128_26_1 rfl rfl ?_
      refine ov_iald d_128_27 (zb_39 I) (zs_39 I) (by omega) ?_
      have g4 := ra_39 I g
      refine ov_blk (ls2 := [(0, ov_r 37), (1, ov_i g), (2, ov_i c)]) (st2 := [ov_i (ov_lcmp (ov_lshr (h (h 37 0) c) 32) (ov_w (h 39 g)))]) (pc2 := 30) b_128_28_2 rfl rfl ?_
      have g5 := ov_wg (h 39 g)
      have g6 := ov_wq (h 39 g)
      have g7 := ov_lcg (ov_lshr (h (h 37 0) c) 32) (ov_w (h 39 g))
      refine ov_ifne (tgt := 37) d_128_30 (by decide) (by omega) (fun c8 => ?_) (fun c8 => ?_)
      · skip
        refine ov_blk (ls2 := [(0, ov_r 37), (1, ov_i g), (2, ov_i c)]) (st2 := [ov_i 0]) (pc2 := 38) b_128_37_1 rfl rfl ?_
        exact ov_retz (st := []) d_128_38 rfl (by omega) ⟨_, rfl, rfl, rfl, (by show (0 = 0 ∨ 0 = 1) ∧ (0 = 1 → 0 ≤ c ∧ c < (((z.2.2 (h 37 0)).2 : Nat) : Int)); omega)⟩
      · skip
        refine ov_blk (ls2 := [(0, ov_r 37), (1, ov_i g), (2, ov_i c)]) (st2 := [ov_i 1]) (pc2 := 34) b_128_33_1 rfl rfl ?_
        refine ov_goto (tgt := 38) d_128_34 (by decide) ?_
        exact ov_retz (st := []) d_128_38 rfl (by omega) ⟨_, rfl, rfl, rfl, (by show (1 = 0 ∨ 1 = 1) ∧ (1 = 1 → 0 ≤ c ∧ c < (((z.2.2 (h 37 0)).2 : Nat) : Int)); omega)⟩
abbrev P_Memo_number_37 (F : ov_H) (z : ov_Z) (h : ov_H) (c : Int) : Option ov_V → ov_Z → ov_H → Prop := fun r0 z' h' => ∃ r : Int, r0 = some (ov_i r) ∧ z = z' ∧ h = h' ∧ (-2147483648 ≤ r ∧ r ≤ 2147483647)
set_option maxHeartbeats 4000000 in
theorem c_Memo_number_37 {u : ov_U} {F : ov_H} {z : ov_Z} {h : ov_H} (d : Nat) (hd : 0 ≤ d) (U : ov_cap u) (I : ov_I F z h) (c : Int) (g_c : ov_g c) (p0 : 0 ≤ c ∧ c < (((z.2.2 (h 37 0)).2 : Nat) : Int)) : ov_T u d ov_m129 [ov_r 37, ov_i c] z h (P_Memo_number_37 F z h c) := by
  refine ov_en rfl (Nat.le_of_ble_eq_true rfl) ?_
  show ov_R u d ov_m129 0 [(0, ov_r 37), (1, ov_i c)] [] z h (P_Memo_number_37 F z h c)
  refine ov_blk (ls2 := [(0, ov_r 37), (1, ov_i c)]) (st2 := [ov_r 37]) (pc2 := 1) b_129_0_1 rfl rfl ?_
  refine ov_getf (v := ov_r (h 37 0)) d_129_1 fl_Memo_9 (zb_37 I) (zs_37 I) rfl ?_
  refine ov_blk (ls2 := [(0, ov_r 37), (1, ov_i c)]) (st2 := [ov_i c, ov_r (h 37 0)]) (pc2 := 5) b_129_4_1 rfl rfl ?_
  refine ov_lald d_129_5 (mm_37 I).1 (mm_37 I).2.1 (by omega) ?_
  refine ov_blk (ls2 := [(0, ov_r 37), (1, ov_i c)]) (st2 := [ov_i (h (h 37 0) c)]) (pc2 := 7) b_129_6_1 rfl rfl ?_
  refine ov_havw (fun w1 gw1 qw1 => ?_)
  exact ov_reti (st := []) d_129_7 rfl ⟨_, rfl, rfl, rfl, (by show -2147483648 ≤ w1 ∧ w1 ≤ 2147483647; omega)⟩
abbrev P_Memo_put_37 (F : ov_H) (z : ov_Z) (h : ov_H) (g : Int) (c : Int) (n : Int) : Option ov_V → ov_Z → ov_H → Prop := fun r0 z' h' => r0 = none ∧ ov_I F z' h' ∧ ((h' 36 7) = (h 36 7) ∧ (h' 1 1) = (h 1 1) ∧ (h' 90 2) = (h 90 2) ∧ (h' 0 10) = (h 0 10) ∧ (h' 0 11) = (h 0 11) ∧ (h' 0 12) = (h 0 12) ∧ (h' 0 13) = (h 0 13) ∧ (h' 3 1) = (h 3 1) ∧ (h' 36 8) = (h 36 8) ∧ (h' 46 3) = (h 46 3) ∧ (h' 46 4) = (h 46 4) ∧ (h' 49 4) = (h 49 4) ∧ (h' 49 5) = (h 49 5) ∧ (h' 64 0) = (h 64 0) ∧ (h' 76 0) = (h 76 0))
set_option maxHeartbeats 4000000 in
theorem c_Memo_put_37 {u : ov_U} {F : ov_H} {z : ov_Z} {h : ov_H} (d : Nat) (hd : 0 ≤ d) (U : ov_cap u) (I : ov_I F z h) (g : Int) (c : Int) (n : Int) (g_g : ov_g g) (g_c : ov_g c) (g_n : ov_g n) (p0 : 0 ≤ g ∧ g ≤ 53) : ov_T u d ov_m141 [ov_r 37, ov_i g, ov_i c, ov_i n] z h (P_Memo_put_37 F z h g c n) := by
  refine ov_en rfl (Nat.le_of_ble_eq_true rfl) ?_
  show ov_R u d ov_m141 0 [(0, ov_r 37), (1, ov_i g), (2, ov_i c), (3, ov_i n)] [] z h (P_Memo_put_37 F z h g c n)
  refine ov_blk (ls2 := [(0, ov_r 37), (1, ov_i g), (2, ov_i c), (3, ov_i n)]) (st2 := [ov_i c]) (pc2 := 1) b_141_0_1 rfl rfl ?_
  refine ov_iflt (tgt := 36) d_141_1 (by decide) (by omega) (fun c1 => ?_) (fun c1 => ?_)
  · skip
    exact ov_retv (st := []) d_141_36 rfl ⟨rfl, I, (by show (h 36 7) = (h 36 7) ∧ (h 1 1) = (h 1 1) ∧ (h 90 2) = (h 90 2) ∧ (h 0 10) = (h 0 10) ∧ (h 0 11) = (h 0 11) ∧ (h 0 12) = (h 0 12) ∧ (h 0 13) = (h 0 13) ∧ (h 3 1) = (h 3 1) ∧ (h 36 8) = (h 36 8) ∧ (h 46 3) = (h 46 3) ∧ (h 46 4) = (h 46 4) ∧ (h 49 4) = (h 49 4) ∧ (h 49 5) = (h 49 5) ∧ (h 64 0) = (h 64 0) ∧ (h 76 0) = (h 76 0); omega)⟩
  · skip
    refine ov_blk (ls2 := [(0, ov_r 37), (1, ov_i g), (2, ov_i c), (3, ov_i n)]) (st2 := [ov_r 37, ov_i c]) (pc2 := 6) b_141_4_2 rfl rfl ?_
    refine ov_getf (v := ov_r (h 37 0)) d_141_6 fl_Memo_9 (zb_37 I) (zs_37 I) rfl ?_
    refine ov_alen d_141_9 (mm_37 I).1 (mm_37 I).2.1 (by decide) ?_
    show ov_R u d ov_m141 10 [(0, ov_r 37), (1, ov_i g), (2, ov_i c), (3, ov_i n)] [ov_i (((z.2.2 (h 37 0)).2 : Nat) : Int), ov_i c] z h (P_Memo_put_37 F z h g c n)
    have g2 := (mm_37 I).2.2.1
    refine ov_icge (tgt := 36) d_141_10 (by decide) (by omega) (by omega) (fun c3 => ?_) (fun c3 => ?_)
    · skip
      exact ov_retv (st := []) d_141_36 rfl ⟨rfl, I, (by show (h 36 7) = (h 36 7) ∧ (h 1 1) = (h 1 1) ∧ (h 90 2) = (h 90 2) ∧ (h 0 10) = (h 0 10) ∧ (h 0 11) = (h 0 11) ∧ (h 0 12) = (h 0 12) ∧ (h 0 13) = (h 0 13) ∧ (h 3 1) = (h 3 1) ∧ (h 36 8) = (h 36 8) ∧ (h 46 3) = (h 46 3) ∧ (h 46 4) = (h 46 4) ∧ (h 49 4) = (h 49 4) ∧ (h 49 5) = (h 49 5) ∧ (h 64 0) = (h 64 0) ∧ (h 76 0) = (h 76 0); omega)⟩
    · skip
      refine ov_blk (ls2 := [(0, ov_r 37), (1, ov_i g), (2, ov_i c), (3, ov_i n)]) (st2 := [ov_r 37]) (pc2 := 14) b_141_13_1 rfl rfl ?_
      refine ov_getf (v := ov_r (h 37 0)) d_141_14 fl_Memo_9 (zb_37 I) (zs_37 I) rfl ?_
      refine ov_blk (ls2 := [(0, ov_r 37), (1, ov_i g), (2, ov_i c), (3, ov_i n)]) (st2 := [ov_r 37, ov_i c, ov_r (h 37 0)]) (pc2 := 19) b_141_17_2 rfl rfl ?_
      refine ov_getf (v := ov_r 39) d_141_19 fl_Memo_15 (zb_37 I) (zs_37 I) (congrArg ov_r (rg_37_1 I)) ?_
      refine ov_blk (ls2 := [(0, ov_r 37), (1, ov_i g), (2, ov_i c), (3, ov_i n)]) (st2 := [ov_i g, ov_r 39, ov_i c, ov_r (h 37 0)]) (pc2 := 23) b_141_22_1 rfl rfl ?_
      refine ov_iald d_141_23 (zb_39 I) (zs_39 I) (by omega) ?_
      have g4 := ra_39 I g
      refine ov_blk (ls2 := [(0, ov_r 37), (1, ov_i g), (2, ov_i c), (3, ov_i n)]) (st2 := [ov_l (ov_w n), ov_l (ov_lshl (ov_w (h 39 g)) 32), ov_i c, ov_r (h 37 0)]) (pc2 := 30) b_141_24_5 rfl rfl ?_
      have g5 := ov_wg (h 39 g)
      have g6 := ov_wq (h 39 g)
      have g7 := ov_wg n
      have g8 := ov_wq n
      refine ov_ldc2 (n := 4294967295) d_141_30 kc_Memo_35 ?_
      refine ov_blk (ls2 := [(0, ov_r 37), (1, ov_i g), (2, ov_i c), (3, ov_i n)]) (st2 := [ov_l (ov_lor (ov_lshl (ov_w (h 39 g)) 32) (ov_land (ov_w n) 4294967295)), ov_i c, ov_r (h 37 0)]) (pc2 := 35) b_141_33_2 rfl rfl ?_
      refine ov_last d_141_35 (mm_37 I).1 (mm_37 I).2.1 (by omega) ?_
      have I9 := ov_I_um (b := (h 37 0)) (k := c) (x := (ov_lor (ov_lshl (ov_w (h 39 g)) 32) (ov_land (ov_w n) 4294967295))) I (by have := (mm_37 I).2.2.2; omega)
      have e11 : (ov_up h (h 37 0) c (ov_lor (ov_lshl (ov_w (h 39 g)) 32) (ov_land (ov_w n) 4294967295))) 36 7 = h 36 7 := ov_um_lt (mm_37 I).2.2.2 (by decide) (by decide) _
      have e12 : (ov_up h (h 37 0) c (ov_lor (ov_lshl (ov_w (h 39 g)) 32) (ov_land (ov_w n) 4294967295))) 1 1 = h 1 1 := ov_um_lt (mm_37 I).2.2.2 (by decide) (by decide) _
      have e13 : (ov_up h (h 37 0) c (ov_lor (ov_lshl (ov_w (h 39 g)) 32) (ov_land (ov_w n) 4294967295))) 90 2 = h 90 2 := ov_um_lt (mm_37 I).2.2.2 (by decide) (by decide) _
      have e14 : (ov_up h (h 37 0) c (ov_lor (ov_lshl (ov_w (h 39 g)) 32) (ov_land (ov_w n) 4294967295))) 0 10 = h 0 10 := ov_um_lt (mm_37 I).2.2.2 (by decide) (by decide) _
      have e15 : (ov_up h (h 37 0) c (ov_lor (ov_lshl (ov_w (h 39 g)) 32) (ov_land (ov_w n) 4294967295))) 0 11 = h 0 11 := ov_um_lt (mm_37 I).2.2.2 (by decide) (by decide) _
      have e16 : (ov_up h (h 37 0) c (ov_lor (ov_lshl (ov_w (h 39 g)) 32) (ov_land (ov_w n) 4294967295))) 0 12 = h 0 12 := ov_um_lt (mm_37 I).2.2.2 (by decide) (by decide) _
      have e17 : (ov_up h (h 37 0) c (ov_lor (ov_lshl (ov_w (h 39 g)) 32) (ov_land (ov_w n) 4294967295))) 0 13 = h 0 13 := ov_um_lt (mm_37 I).2.2.2 (by decide) (by decide) _
      have e18 : (ov_up h (h 37 0) c (ov_lor (ov_lshl (ov_w (h 39 g)) 32) (ov_land (ov_w n) 4294967295))) 3 1 = h 3 1 := ov_um_lt (mm_37 I).2.2.2 (by decide) (by decide) _
      have e19 : (ov_up h (h 37 0) c (ov_lor (ov_lshl (ov_w (h 39 g)) 32) (ov_land (ov_w n) 4294967295))) 36 8 = h 36 8 := ov_um_lt (mm_37 I).2.2.2 (by decide) (by decide) _
      have e20 : (ov_up h (h 37 0) c (ov_lor (ov_lshl (ov_w (h 39 g)) 32) (ov_land (ov_w n) 4294967295))) 46 3 = h 46 3 := ov_um_lt (mm_37 I).2.2.2 (by decide) (by decide) _
      have e21 : (ov_up h (h 37 0) c (ov_lor (ov_lshl (ov_w (h 39 g)) 32) (ov_land (ov_w n) 4294967295))) 46 4 = h 46 4 := ov_um_lt (mm_37 I).2.2.2 (by decide) (by decide) _
      have e22 : (ov_up h (h 37 0) c (ov_lor (ov_lshl (ov_w (h 39 g)) 32) (ov_land (ov_w n) 4294967295))) 49 4 = h 49 4 := ov_um_lt (mm_37 I).2.2.2 (by decide) (by decide) _
      have e23 : (ov_up h (h 37 0) c (ov_lor (ov_lshl (ov_w (h 39 g)) 32) (ov_land (ov_w n) 4294967295))) 49 5 = h 49 5 := ov_um_lt (mm_37 I).2.2.2 (by decide) (by decide) _
      have e24 : (ov_up h (h 37 0) c (ov_lor (ov_lshl (ov_w (h 39 g)) 32) (ov_land (ov_w n) 4294967295))) 64 0 = h 64 0 := ov_um_lt (mm_37 I).2.2.2 (by decide) (by decide) _
      have e25 : (ov_up h (h 37 0) c (ov_lor (ov_lshl (ov_w (h 39 g)) 32) (ov_land (ov_w n) 4294967295))) 76 0 = h 76 0 := ov_um_lt (mm_37 I).2.2.2 (by decide) (by decide) _
      generalize (ov_up h (h 37 0) c (ov_lor (ov_lshl (ov_w (h 39 g)) 32) (ov_land (ov_w n) 4294967295))) = h10 at I9 e11 e12 e13 e14 e15 e16 e17 e18 e19 e20 e21 e22 e23 e24 e25 ⊢
      exact ov_retv (st := []) d_141_36 rfl ⟨rfl, I9, (by show (h10 36 7) = (h 36 7) ∧ (h10 1 1) = (h 1 1) ∧ (h10 90 2) = (h 90 2) ∧ (h10 0 10) = (h 0 10) ∧ (h10 0 11) = (h 0 11) ∧ (h10 0 12) = (h 0 12) ∧ (h10 0 13) = (h 0 13) ∧ (h10 3 1) = (h 3 1) ∧ (h10 36 8) = (h 36 8) ∧ (h10 46 3) = (h 46 3) ∧ (h10 46 4) = (h 46 4) ∧ (h10 49 4) = (h 49 4) ∧ (h10 49 5) = (h 49 5) ∧ (h10 64 0) = (h 64 0) ∧ (h10 76 0) = (h 76 0); omega)⟩
abbrev P_Memo_clearBefore_37 (F : ov_H) (z : ov_Z) (h : ov_H) (c : Int) : Option ov_V → ov_Z → ov_H → Prop := fun r0 z' h' => r0 = none ∧ ov_I F z' h' ∧ ((h' 36 7) = (h 36 7) ∧ (h' 1 1) = (h 1 1) ∧ (h' 90 2) = (h 90 2) ∧ (h' 0 10) = (h 0 10) ∧ (h' 0 11) = (h 0 11) ∧ (h' 0 12) = (h 0 12) ∧ (h' 0 13) = (h 0 13) ∧ (h' 3 1) = (h 3 1) ∧ (h' 36 8) = (h 36 8) ∧ (h' 46 3) = (h 46 3) ∧ (h' 46 4) = (h 46 4) ∧ (h' 49 4) = (h 49 4) ∧ (h' 49 5) = (h 49 5) ∧ (h' 64 0) = (h 64 0) ∧ (h' 76 0) = (h 76 0))
set_option maxHeartbeats 4000000 in
theorem c_Memo_clearBefore_37 {u : ov_U} {F : ov_H} {z : ov_Z} {h : ov_H} (d : Nat) (hd : 0 ≤ d) (U : ov_cap u) (I : ov_I F z h) (c : Int) (g_c : ov_g c) (p0 : 0 ≤ c ∧ c ≤ 53) : ov_T u d ov_m148 [ov_r 37, ov_i c] z h (P_Memo_clearBefore_37 F z h c) := by
  refine ov_en rfl (Nat.le_of_ble_eq_true rfl) ?_
  show ov_R u d ov_m148 0 [(0, ov_r 37), (1, ov_i c)] [] z h (P_Memo_clearBefore_37 F z h c)
  refine ov_blk (ls2 := [(0, ov_r 37), (1, ov_i c)]) (st2 := [ov_r 37, ov_r 37]) (pc2 := 2) b_148_0_2 rfl rfl ?_
  refine ov_getf (v := ov_i (h 37 2)) d_148_2 fl_Memo_25 (zb_37 I) (zs_37 I) rfl ?_
  have g1 := rg_37_2 I
  refine ov_blk (ls2 := [(0, ov_r 37), (1, ov_i c)]) (st2 := [ov_i ((h 37 2) + 1), ov_r 37]) (pc2 := 7) b_148_5_2 rfl rfl ?_
  refine ov_havw (fun w2 gw2 qw2 => ?_)
  refine ov_putf (x := w2) d_148_7 fl_Memo_25 (zb_37 I) (zs_37 I) rfl nk_0 rfl ?_
  have I3 := up_37_2 (x := w2) I (by omega)
  refine ov_blk (ls2 := [(0, ov_r 37), (1, ov_i c), (2, ov_i 0)]) (st2 := []) (pc2 := 12) b_148_10_2 rfl rfl ?_
  have L7 : ∀ (n4 : Nat) (x2 : Int) (z8 : ov_Z) (h9 : ov_H) (I10 : ov_I F z8 h9) (q6 : 0 ≤ x2 ∧ x2 ≤ 54 ∧ (h9 36 7) = (h 36 7) ∧ (h9 1 1) = (h 1 1) ∧ (h9 90 2) = (h 90 2) ∧ (h9 0 10) = (h 0 10) ∧ (h9 0 11) = (h 0 11) ∧ (h9 0 12) = (h 0 12) ∧ (h9 0 13) = (h 0 13) ∧ (h9 3 1) = (h 3 1) ∧ (h9 36 8) = (h 36 8) ∧ (h9 46 3) = (h 46 3) ∧ (h9 46 4) = (h 46 4) ∧ (h9 49 4) = (h 49 4) ∧ (h9 49 5) = (h 49 5) ∧ (h9 64 0) = (h 64 0) ∧ (h9 76 0) = (h 76 0)), 54 - x2 < (n4 : Int) → ov_R u d ov_m148 12 [(0, ov_r 37), (1, ov_i c), (2, ov_i x2)] [] z8 h9 (P_Memo_clearBefore_37 F z h c) := by
    intro n4
    induction n4 with
    | zero =>
      intro x2 z8 h9 I10 q6 hn11
      exact absurd hn11 (by omega)
    | succ n4 ih5 =>
      intro x2 z8 h9 I10 q6 hn11
      refine ov_blk (ls2 := [(0, ov_r 37), (1, ov_i c), (2, ov_i x2)]) (st2 := [ov_i c, ov_i x2]) (pc2 := 14) b_148_12_2 rfl rfl ?_
      refine ov_icgt (tgt := 44) d_148_14 (by decide) (by omega) (by omega) (fun c12 => ?_) (fun c12 => ?_)
      · skip
        exact ov_retv (st := []) d_148_44 rfl ⟨rfl, I10, (by show (h9 36 7) = (h 36 7) ∧ (h9 1 1) = (h 1 1) ∧ (h9 90 2) = (h 90 2) ∧ (h9 0 10) = (h 0 10) ∧ (h9 0 11) = (h 0 11) ∧ (h9 0 12) = (h 0 12) ∧ (h9 0 13) = (h 0 13) ∧ (h9 3 1) = (h 3 1) ∧ (h9 36 8) = (h 36 8) ∧ (h9 46 3) = (h 46 3) ∧ (h9 46 4) = (h 46 4) ∧ (h9 49 4) = (h 49 4) ∧ (h9 49 5) = (h 49 5) ∧ (h9 64 0) = (h 64 0) ∧ (h9 76 0) = (h 76 0); omega)⟩
      · skip
        refine ov_blk (ls2 := [(0, ov_r 37), (1, ov_i c), (2, ov_i x2)]) (st2 := [ov_i 6, ov_i x2]) (pc2 := 20) b_148_17_2 rfl rfl ?_
        refine ov_irem d_148_20 (by omega) (by omega) (by omega) ?_
        have g13 := ov_tm (a := x2) (b := 6) (by omega)
        have g14 := ov_tmg (a := x2) (b := 6) (by omega) (by omega)
        refine ov_blk (ls2 := [(0, ov_r 37), (1, ov_i c), (2, ov_i x2)]) (st2 := [ov_i 6, ov_i c, ov_i (Int.tmod x2 6)]) (pc2 := 24) b_148_21_2 rfl rfl ?_
        refine ov_irem d_148_24 (by omega) (by omega) (by omega) ?_
        have g15 := ov_tm (a := c) (b := 6) (by omega)
        have g16 := ov_tmg (a := c) (b := 6) (by omega) (by omega)
        refine ov_icgt (tgt := 38) d_148_25 (by decide) (by omega) (by omega) (fun c17 => ?_) (fun c17 => ?_)
        · skip
          refine ov_blk (ls2 := [(0, ov_r 37), (1, ov_i c), (2, ov_i (x2 + 1))]) (st2 := []) (pc2 := 41) b_148_38_1 rfl rfl ?_
          refine ov_goto (tgt := 12) d_148_41 (by decide) ?_
          exact ih5 (x2 + 1) _ _ I10 (by show 0 ≤ (x2 + 1) ∧ (x2 + 1) ≤ 54 ∧ (h9 36 7) = (h 36 7) ∧ (h9 1 1) = (h 1 1) ∧ (h9 90 2) = (h 90 2) ∧ (h9 0 10) = (h 0 10) ∧ (h9 0 11) = (h 0 11) ∧ (h9 0 12) = (h 0 12) ∧ (h9 0 13) = (h 0 13) ∧ (h9 3 1) = (h 3 1) ∧ (h9 36 8) = (h 36 8) ∧ (h9 46 3) = (h 46 3) ∧ (h9 46 4) = (h 46 4) ∧ (h9 49 4) = (h 49 4) ∧ (h9 49 5) = (h 49 5) ∧ (h9 64 0) = (h 64 0) ∧ (h9 76 0) = (h 76 0); omega) (by omega)
        · skip
          refine ov_blk (ls2 := [(0, ov_r 37), (1, ov_i c), (2, ov_i x2)]) (st2 := [ov_r 37]) (pc2 := 29) b_148_28_1 rfl rfl ?_
          refine ov_getf (v := ov_r 39) d_148_29 fl_Memo_15 (zb_37 I10) (zs_37 I10) (congrArg ov_r (rg_37_1 I10)) ?_
          refine ov_blk (ls2 := [(0, ov_r 37), (1, ov_i c), (2, ov_i x2)]) (st2 := [ov_r 37, ov_i x2, ov_r 39]) (pc2 := 34) b_148_32_2 rfl rfl ?_
          refine ov_getf (v := ov_i (h9 37 2)) d_148_34 fl_Memo_25 (zb_37 I10) (zs_37 I10) rfl ?_
          have g18 := rg_37_2 I10
          refine ov_iast d_148_37 (zb_39 I10) (zs_39 I10) (by omega) ?_
          have I19 := ua_39 (k := x2) (x := (h9 37 2)) I10 (by omega)
          refine ov_blk (ls2 := [(0, ov_r 37), (1, ov_i c), (2, ov_i (x2 + 1))]) (st2 := []) (pc2 := 41) b_148_38_1 rfl rfl ?_
          refine ov_goto (tgt := 12) d_148_41 (by decide) ?_
          exact ih5 (x2 + 1) _ _ I19 (by show 0 ≤ (x2 + 1) ∧ (x2 + 1) ≤ 54 ∧ (h9 36 7) = (h 36 7) ∧ (h9 1 1) = (h 1 1) ∧ (h9 90 2) = (h 90 2) ∧ (h9 0 10) = (h 0 10) ∧ (h9 0 11) = (h 0 11) ∧ (h9 0 12) = (h 0 12) ∧ (h9 0 13) = (h 0 13) ∧ (h9 3 1) = (h 3 1) ∧ (h9 36 8) = (h 36 8) ∧ (h9 46 3) = (h 46 3) ∧ (h9 46 4) = (h 46 4) ∧ (h9 49 4) = (h 49 4) ∧ (h9 49 5) = (h 49 5) ∧ (h9 64 0) = (h 64 0) ∧ (h9 76 0) = (h 76 0); omega) (by omega)
  exact L7 55 0 _ _ I3 (by show 0 ≤ 0 ∧ 0 ≤ 54 ∧ (h 36 7) = (h 36 7) ∧ (h 1 1) = (h 1 1) ∧ (h 90 2) = (h 90 2) ∧ (h 0 10) = (h 0 10) ∧ (h 0 11) = (h 0 11) ∧ (h 0 12) = (h 0 12) ∧ (h 0 13) = (h 0 13) ∧ (h 3 1) = (h 3 1) ∧ (h 36 8) = (h 36 8) ∧ (h 46 3) = (h 46 3) ∧ (h 46 4) = (h 46 4) ∧ (h 49 4) = (h 49 4) ∧ (h 49 5) = (h 49 5) ∧ (h 64 0) = (h 64 0) ∧ (h 76 0) = (h 76 0); omega) (by omega)
abbrev P_Memo_clear_37 (F : ov_H) (z : ov_Z) (h : ov_H) (n : Int) : Option ov_V → ov_Z → ov_H → Prop := fun r0 z' h' => r0 = none ∧ ov_I F z' h' ∧ ((h' 36 7) = (h 36 7) ∧ (h' 1 1) = (h 1 1) ∧ (h' 90 2) = (h 90 2) ∧ (h' 0 10) = (h 0 10) ∧ (h' 0 11) = (h 0 11) ∧ (h' 0 12) = (h 0 12) ∧ (h' 0 13) = (h 0 13) ∧ (h' 3 1) = (h 3 1) ∧ (h' 36 8) = (h 36 8) ∧ (h' 46 3) = (h 46 3) ∧ (h' 46 4) = (h 46 4) ∧ (h' 49 4) = (h 49 4) ∧ (h' 49 5) = (h 49 5) ∧ (h' 64 0) = (h 64 0) ∧ (h' 76 0) = (h 76 0))
set_option maxHeartbeats 4000000 in
theorem c_Memo_clear_37 {u : ov_U} {F : ov_H} {z : ov_Z} {h : ov_H} (d : Nat) (hd : 1 ≤ d) (U : ov_cap u) (I : ov_I F z h) (n : Int) (g_n : ov_g n) (p0 : n ≤ 64800) : ov_T u d ov_m124 [ov_r 37, ov_i n] z h (P_Memo_clear_37 F z h n) := by
  refine ov_en rfl (Nat.le_of_ble_eq_true rfl) ?_
  show ov_R u d ov_m124 0 [(0, ov_r 37), (1, ov_i n)] [] z h (P_Memo_clear_37 F z h n)
  refine ov_blk (ls2 := [(0, ov_r 37), (1, ov_i n)]) (st2 := [ov_r 37, ov_i n]) (pc2 := 2) b_124_0_2 rfl rfl ?_
  refine ov_getf (v := ov_r (h 37 0)) d_124_2 fl_Memo_9 (zb_37 I) (zs_37 I) rfl ?_
  refine ov_alen d_124_5 (mm_37 I).1 (mm_37 I).2.1 (by decide) ?_
  show ov_R u d ov_m124 6 [(0, ov_r 37), (1, ov_i n)] [ov_i (((z.2.2 (h 37 0)).2 : Nat) : Int), ov_i n] z h (P_Memo_clear_37 F z h n)
  have g1 := (mm_37 I).2.2.1
  refine ov_icle (tgt := 26) d_124_6 (by decide) (by omega) (by omega) (fun c2 => ?_) (fun c2 => ?_)
  · skip
    refine ov_blk (ls2 := [(0, ov_r 37), (1, ov_i n)]) (st2 := [ov_r 37, ov_r 37]) (pc2 := 28) b_124_26_2 rfl rfl ?_
    refine ov_getf (v := ov_i (h 37 2)) d_124_28 fl_Memo_25 (zb_37 I) (zs_37 I) rfl ?_
    have g3 := rg_37_2 I
    refine ov_blk (ls2 := [(0, ov_r 37), (1, ov_i n)]) (st2 := [ov_i ((h 37 2) + 1), ov_r 37]) (pc2 := 33) b_124_31_2 rfl rfl ?_
    refine ov_havw (fun w4 gw4 qw4 => ?_)
    refine ov_putf (x := w4) d_124_33 fl_Memo_25 (zb_37 I) (zs_37 I) rfl nk_0 rfl ?_
    have I5 := up_37_2 (x := w4) I (by omega)
    refine ov_blk (ls2 := [(0, ov_r 37), (1, ov_i n)]) (st2 := [ov_r 37]) (pc2 := 37) b_124_36_1 rfl rfl ?_
    refine ov_getf (v := ov_r 39) d_124_37 fl_Memo_15 (zb_37 I5) (zs_37 I5) (congrArg ov_r (rg_37_1 I5)) ?_
    refine ov_blk (ls2 := [(0, ov_r 37), (1, ov_i n)]) (st2 := [ov_r 37, ov_r 39]) (pc2 := 41) b_124_40_1 rfl rfl ?_
    refine ov_getf (v := ov_i w4) d_124_41 fl_Memo_25 (zb_37 I5) (zs_37 I5) rfl ?_
    refine ov_cS (as := [ov_r 39, ov_i w4]) (st := []) (d2 := d - 1) d_124_44 lk_Memo_29 rfl (Nat.le_of_ble_eq_true rfl) (by omega) (c_Arrays_fill_AIIV_39 (d - 1) (by omega) U I5 w4 (by omega) (by omega)) ?_
    rintro _ z7 h8 ⟨rfl, I9, f6⟩
    show ov_R u d ov_m124 47 [(0, ov_r 37), (1, ov_i n)] [] z7 h8 (P_Memo_clear_37 F z h n)
    have f10 : (h8 36 7) = (h 36 7) ∧ (h8 1 1) = (h 1 1) ∧ (h8 90 2) = (h 90 2) ∧ (h8 0 10) = (h 0 10) ∧ (h8 0 11) = (h 0 11) ∧ (h8 0 12) = (h 0 12) ∧ (h8 0 13) = (h 0 13) ∧ (h8 3 1) = (h 3 1) ∧ (h8 36 8) = (h 36 8) ∧ (h8 46 3) = (h 46 3) ∧ (h8 46 4) = (h 46 4) ∧ (h8 49 4) = (h 49 4) ∧ (h8 49 5) = (h 49 5) ∧ (h8 64 0) = (h 64 0) ∧ (h8 76 0) = (h 76 0) := f6
    clear f6
    exact ov_retv (st := []) d_124_47 rfl ⟨rfl, I9, (by show (h8 36 7) = (h 36 7) ∧ (h8 1 1) = (h 1 1) ∧ (h8 90 2) = (h 90 2) ∧ (h8 0 10) = (h 0 10) ∧ (h8 0 11) = (h 0 11) ∧ (h8 0 12) = (h 0 12) ∧ (h8 0 13) = (h 0 13) ∧ (h8 3 1) = (h 3 1) ∧ (h8 36 8) = (h 36 8) ∧ (h8 46 3) = (h 46 3) ∧ (h8 46 4) = (h 46 4) ∧ (h8 49 4) = (h 49 4) ∧ (h8 49 5) = (h 49 5) ∧ (h8 64 0) = (h 64 0) ∧ (h8 76 0) = (h 76 0); omega)⟩
  · skip
    refine ov_blk (ls2 := [(0, ov_r 37), (1, ov_i n)]) (st2 := [ov_r 37, ov_i 2, ov_i n, ov_r 37]) (pc2 := 13) b_124_9_4 rfl rfl ?_
    refine ov_getf (v := ov_r (h 37 0)) d_124_13 fl_Memo_9 (zb_37 I) (zs_37 I) rfl ?_
    refine ov_alen d_124_16 (mm_37 I).1 (mm_37 I).2.1 (by decide) ?_
    show ov_R u d ov_m124 17 [(0, ov_r 37), (1, ov_i n)] [ov_i (((z.2.2 (h 37 0)).2 : Nat) : Int), ov_i 2, ov_i n, ov_r 37] z h (P_Memo_clear_37 F z h n)
    have g11 := (mm_37 I).2.2.1
    refine ov_blk (ls2 := [(0, ov_r 37), (1, ov_i n)]) (st2 := [ov_i (2 * (((z.2.2 (h 37 0)).2 : Nat) : Int)), ov_i n, ov_r 37]) (pc2 := 18) b_124_17_1 rfl rfl ?_
    refine ov_cS (as := [ov_i n, ov_i (2 * (((z.2.2 (h 37 0)).2 : Nat) : Int))]) (st := [ov_r 37]) (d2 := d - 1) d_124_18 lk_Memo_19 rfl (Nat.le_of_ble_eq_true rfl) (by omega) (c_Math_max (d - 1) (by omega) U I n (2 * (((z.2.2 (h 37 0)).2 : Nat) : Int)) (by omega) (by omega)) ?_
    rintro _ _ _ ⟨v13, rfl, rfl, rfl, f12⟩
    show ov_R u d ov_m124 21 [(0, ov_r 37), (1, ov_i n)] [ov_i v13, ov_r 37] z h (P_Memo_clear_37 F z h n)
    have f14 : n ≤ v13 ∧ (2 * (((z.2.2 (h 37 0)).2 : Nat) : Int)) ≤ v13 ∧ (v13 = n ∨ v13 = (2 * (((z.2.2 (h 37 0)).2 : Nat) : Int))) := f12
    clear f12
    have rm := ov_mroom (n := v13) U I (by omega)
    refine ov_newl d_124_21 aw_long (by omega) rm.1 rm.2 ?_
    have zl := I.1.1.1
    refine ov_putf (x := (z.1 : Int)) d_124_23 fl_Memo_9 ⟨by decide, by show (37 : Int) < ((z.1 + 1 : Nat) : Int); omega⟩ (show (if (37 : Int) = (z.1 : Int) then _ else z.2.2 37) = _ by rw [if_neg (by omega)]; exact zs_37 I) rfl nk_2 rfl ?_
    have I15 := mk_37 (n := v13) I (by omega) (by omega) (by omega)
    have e18 : (ov_up (ov_nw h (z.1 : Int) (fun _ => 0)) 37 0 (z.1 : Int)) 36 7 = h 36 7 := by rw [ov_up_ne (by decide), ov_nw_lt zl (by decide)]
    have e19 : (ov_up (ov_nw h (z.1 : Int) (fun _ => 0)) 37 0 (z.1 : Int)) 1 1 = h 1 1 := by rw [ov_up_ne (by decide), ov_nw_lt zl (by decide)]
    have e20 : (ov_up (ov_nw h (z.1 : Int) (fun _ => 0)) 37 0 (z.1 : Int)) 90 2 = h 90 2 := by rw [ov_up_ne (by decide), ov_nw_lt zl (by decide)]
    have e21 : (ov_up (ov_nw h (z.1 : Int) (fun _ => 0)) 37 0 (z.1 : Int)) 0 10 = h 0 10 := by rw [ov_up_ne (by decide), ov_nw_lt zl (by decide)]
    have e22 : (ov_up (ov_nw h (z.1 : Int) (fun _ => 0)) 37 0 (z.1 : Int)) 0 11 = h 0 11 := by rw [ov_up_ne (by decide), ov_nw_lt zl (by decide)]
    have e23 : (ov_up (ov_nw h (z.1 : Int) (fun _ => 0)) 37 0 (z.1 : Int)) 0 12 = h 0 12 := by rw [ov_up_ne (by decide), ov_nw_lt zl (by decide)]
    have e24 : (ov_up (ov_nw h (z.1 : Int) (fun _ => 0)) 37 0 (z.1 : Int)) 0 13 = h 0 13 := by rw [ov_up_ne (by decide), ov_nw_lt zl (by decide)]
    have e25 : (ov_up (ov_nw h (z.1 : Int) (fun _ => 0)) 37 0 (z.1 : Int)) 3 1 = h 3 1 := by rw [ov_up_ne (by decide), ov_nw_lt zl (by decide)]
    have e26 : (ov_up (ov_nw h (z.1 : Int) (fun _ => 0)) 37 0 (z.1 : Int)) 36 8 = h 36 8 := by rw [ov_up_ne (by decide), ov_nw_lt zl (by decide)]
    have e27 : (ov_up (ov_nw h (z.1 : Int) (fun _ => 0)) 37 0 (z.1 : Int)) 46 3 = h 46 3 := by rw [ov_up_ne (by decide), ov_nw_lt zl (by decide)]
    have e28 : (ov_up (ov_nw h (z.1 : Int) (fun _ => 0)) 37 0 (z.1 : Int)) 46 4 = h 46 4 := by rw [ov_up_ne (by decide), ov_nw_lt zl (by decide)]
    have e29 : (ov_up (ov_nw h (z.1 : Int) (fun _ => 0)) 37 0 (z.1 : Int)) 49 4 = h 49 4 := by rw [ov_up_ne (by decide), ov_nw_lt zl (by decide)]
    have e30 : (ov_up (ov_nw h (z.1 : Int) (fun _ => 0)) 37 0 (z.1 : Int)) 49 5 = h 49 5 := by rw [ov_up_ne (by decide), ov_nw_lt zl (by decide)]
    have e31 : (ov_up (ov_nw h (z.1 : Int) (fun _ => 0)) 37 0 (z.1 : Int)) 64 0 = h 64 0 := by rw [ov_up_ne (by decide), ov_nw_lt zl (by decide)]
    have e32 : (ov_up (ov_nw h (z.1 : Int) (fun _ => 0)) 37 0 (z.1 : Int)) 76 0 = h 76 0 := by rw [ov_up_ne (by decide), ov_nw_lt zl (by decide)]
    show ov_R u d ov_m124 26 [(0, ov_r 37), (1, ov_i n)] [] (ov_zn z (1, (v13).toNat)) (ov_up (ov_nw h (z.1 : Int) (fun _ => 0)) 37 0 (z.1 : Int)) (P_Memo_clear_37 F z h n)
    generalize (ov_up (ov_nw h (z.1 : Int) (fun _ => 0)) 37 0 (z.1 : Int)) = h16 at I15 e18 e19 e20 e21 e22 e23 e24 e25 e26 e27 e28 e29 e30 e31 e32 ⊢
    generalize (ov_zn z (1, (v13).toNat)) = z17 at I15 ⊢
    refine ov_blk (ls2 := [(0, ov_r 37), (1, ov_i n)]) (st2 := [ov_r 37, ov_r 37]) (pc2 := 28) b_124_26_2 rfl rfl ?_
    refine ov_getf (v := ov_i (h16 37 2)) d_124_28 fl_Memo_25 (zb_37 I15) (zs_37 I15) rfl ?_
    have g33 := rg_37_2 I15
    refine ov_blk (ls2 := [(0, ov_r 37), (1, ov_i n)]) (st2 := [ov_i ((h16 37 2) + 1), ov_r 37]) (pc2 := 33) b_124_31_2 rfl rfl ?_
    refine ov_havw (fun w34 gw34 qw34 => ?_)
    refine ov_putf (x := w34) d_124_33 fl_Memo_25 (zb_37 I15) (zs_37 I15) rfl nk_0 rfl ?_
    have I35 := up_37_2 (x := w34) I15 (by omega)
    refine ov_blk (ls2 := [(0, ov_r 37), (1, ov_i n)]) (st2 := [ov_r 37]) (pc2 := 37) b_124_36_1 rfl rfl ?_
    refine ov_getf (v := ov_r 39) d_124_37 fl_Memo_15 (zb_37 I35) (zs_37 I35) (congrArg ov_r (rg_37_1 I35)) ?_
    refine ov_blk (ls2 := [(0, ov_r 37), (1, ov_i n)]) (st2 := [ov_r 37, ov_r 39]) (pc2 := 41) b_124_40_1 rfl rfl ?_
    refine ov_getf (v := ov_i w34) d_124_41 fl_Memo_25 (zb_37 I35) (zs_37 I35) rfl ?_
    refine ov_cS (as := [ov_r 39, ov_i w34]) (st := []) (d2 := d - 1) d_124_44 lk_Memo_29 rfl (Nat.le_of_ble_eq_true rfl) (by omega) (c_Arrays_fill_AIIV_39 (d - 1) (by omega) U I35 w34 (by omega) (by omega)) ?_
    rintro _ z37 h38 ⟨rfl, I39, f36⟩
    show ov_R u d ov_m124 47 [(0, ov_r 37), (1, ov_i n)] [] z37 h38 (P_Memo_clear_37 F z h n)
    have f40 : (h38 36 7) = (h16 36 7) ∧ (h38 1 1) = (h16 1 1) ∧ (h38 90 2) = (h16 90 2) ∧ (h38 0 10) = (h16 0 10) ∧ (h38 0 11) = (h16 0 11) ∧ (h38 0 12) = (h16 0 12) ∧ (h38 0 13) = (h16 0 13) ∧ (h38 3 1) = (h16 3 1) ∧ (h38 36 8) = (h16 36 8) ∧ (h38 46 3) = (h16 46 3) ∧ (h38 46 4) = (h16 46 4) ∧ (h38 49 4) = (h16 49 4) ∧ (h38 49 5) = (h16 49 5) ∧ (h38 64 0) = (h16 64 0) ∧ (h38 76 0) = (h16 76 0) := f36
    clear f36
    exact ov_retv (st := []) d_124_47 rfl ⟨rfl, I39, (by show (h38 36 7) = (h 36 7) ∧ (h38 1 1) = (h 1 1) ∧ (h38 90 2) = (h 90 2) ∧ (h38 0 10) = (h 0 10) ∧ (h38 0 11) = (h 0 11) ∧ (h38 0 12) = (h 0 12) ∧ (h38 0 13) = (h 0 13) ∧ (h38 3 1) = (h 3 1) ∧ (h38 36 8) = (h 36 8) ∧ (h38 46 3) = (h 46 3) ∧ (h38 46 4) = (h 46 4) ∧ (h38 49 4) = (h 49 4) ∧ (h38 49 5) = (h 49 5) ∧ (h38 64 0) = (h 64 0) ∧ (h38 76 0) = (h 76 0); omega)⟩
abbrev P_Memo_holds_40 (F : ov_H) (z : ov_Z) (h : ov_H) (g : Int) (c : Int) : Option ov_V → ov_Z → ov_H → Prop := fun r0 z' h' => ∃ r : Int, r0 = some (ov_i r) ∧ z = z' ∧ h = h' ∧ ((r = 0 ∨ r = 1) ∧ (r = 1 → 0 ≤ c ∧ c < (((z.2.2 (h 40 0)).2 : Nat) : Int)))
set_option maxHeartbeats 4000000 in
theorem c_Memo_holds_40 {u : ov_U} {F : ov_H} {z : ov_Z} {h : ov_H} (d : Nat) (hd : 0 ≤ d) (U : ov_cap u) (I : ov_I F z h) (g : Int) (c : Int) (g_g : ov_g g) (g_c : ov_g c) (p0 : 0 ≤ g ∧ g ≤ 53) : ov_T u d ov_m128 [ov_r 40, ov_i g, ov_i c] z h (P_Memo_holds_40 F z h g c) := by
  refine ov_en rfl (Nat.le_of_ble_eq_true rfl) ?_
  show ov_R u d ov_m128 0 [(0, ov_r 40), (1, ov_i g), (2, ov_i c)] [] z h (P_Memo_holds_40 F z h g c)
  refine ov_blk (ls2 := [(0, ov_r 40), (1, ov_i g), (2, ov_i c)]) (st2 := [ov_i c]) (pc2 := 1) b_128_0_1 rfl rfl ?_
  refine ov_iflt (tgt := 37) d_128_1 (by decide) (by omega) (fun c1 => ?_) (fun c1 => ?_)
  · skip
    refine ov_blk (ls2 := [(0, ov_r 40), (1, ov_i g), (2, ov_i c)]) (st2 := [ov_i 0]) (pc2 := 38) b_128_37_1 rfl rfl ?_
    exact ov_retz (st := []) d_128_38 rfl (by omega) ⟨_, rfl, rfl, rfl, (by show (0 = 0 ∨ 0 = 1) ∧ (0 = 1 → 0 ≤ c ∧ c < (((z.2.2 (h 40 0)).2 : Nat) : Int)); omega)⟩
  · skip
    refine ov_blk (ls2 := [(0, ov_r 40), (1, ov_i g), (2, ov_i c)]) (st2 := [ov_r 40, ov_i c]) (pc2 := 6) b_128_4_2 rfl rfl ?_
    refine ov_getf (v := ov_r (h 40 0)) d_128_6 fl_Memo_9 (zb_40 I) (zs_40 I) rfl ?_
    refine ov_alen d_128_9 (mm_40 I).1 (mm_40 I).2.1 (by decide) ?_
    show ov_R u d ov_m128 10 [(0, ov_r 40), (1, ov_i g), (2, ov_i c)] [ov_i (((z.2.2 (h 40 0)).2 : Nat) : Int), ov_i c] z h (P_Memo_holds_40 F z h g c)
    have g2 := (mm_40 I).2.2.1
    refine ov_icge (tgt := 37) d_128_10 (by decide) (by omega) (by omega) (fun c3 => ?_) (fun c3 => ?_)
    · skip
      refine ov_blk (ls2 := [(0, ov_r 40), (1, ov_i g), (2, ov_i c)]) (st2 := [ov_i 0]) (pc2 := 38) b_128_37_1 rfl rfl ?_
      exact ov_retz (st := []) d_128_38 rfl (by omega) ⟨_, rfl, rfl, rfl, (by show (0 = 0 ∨ 0 = 1) ∧ (0 = 1 → 0 ≤ c ∧ c < (((z.2.2 (h 40 0)).2 : Nat) : Int)); omega)⟩
    · skip
      refine ov_blk (ls2 := [(0, ov_r 40), (1, ov_i g), (2, ov_i c)]) (st2 := [ov_r 40]) (pc2 := 14) b_128_13_1 rfl rfl ?_
      refine ov_getf (v := ov_r (h 40 0)) d_128_14 fl_Memo_9 (zb_40 I) (zs_40 I) rfl ?_
      refine ov_blk (ls2 := [(0, ov_r 40), (1, ov_i g), (2, ov_i c)]) (st2 := [ov_i c, ov_r (h 40 0)]) (pc2 := 18) b_128_17_1 rfl rfl ?_
      refine ov_lald d_128_18 (mm_40 I).1 (mm_40 I).2.1 (by omega) ?_
      refine ov_blk (ls2 := [(0, ov_r 40), (1, ov_i g), (2, ov_i c)]) (st2 := [ov_r 40, ov_l (ov_lshr (h (h 40 0) c) 32)]) (pc2 := 23) b_128_19_3 rfl rfl ?_
      refine ov_getf (v := ov_r 42) d_128_23 fl_Memo_15 (zb_40 I) (zs_40 I) (congrArg ov_r (rg_40_1 I)) ?_
      refine ov_blk (ls2 := [(0, ov_r 40), (1, ov_i g), (2, ov_i c)]) (st2 := [ov_i g, ov_r 42, ov_l (ov_lshr (h (h 40 0) c) 32)]) (pc2 := 27) b_128_26_1 rfl rfl ?_
      refine ov_iald d_128_27 (zb_42 I) (zs_42 I) (by omega) ?_
      have g4 := ra_42 I g
      refine ov_blk (ls2 := [(0, ov_r 40), (1, ov_i g), (2, ov_i c)]) (st2 := [ov_i (ov_lcmp (ov_lshr (h (h 40 0) c) 32) (ov_w (h 42 g)))]) (pc2 := 30) b_128_28_2 rfl rfl ?_
      have g5 := ov_wg (h 42 g)
      have g6 := ov_wq (h 42 g)
      have g7 := ov_lcg (ov_lshr (h (h 40 0) c) 32) (ov_w (h 42 g))
      refine ov_ifne (tgt := 37) d_128_30 (by decide) (by omega) (fun c8 => ?_) (fun c8 => ?_)
      · skip
        refine ov_blk (ls2 := [(0, ov_r 40), (1, ov_i g), (2, ov_i c)]) (st2 := [ov_i 0]) (pc2 := 38) b_128_37_1 rfl rfl ?_
        exact ov_retz (st := []) d_128_38 rfl (by omega) ⟨_, rfl, rfl, rfl, (by show (0 = 0 ∨ 0 = 1) ∧ (0 = 1 → 0 ≤ c ∧ c < (((z.2.2 (h 40 0)).2 : Nat) : Int)); omega)⟩
      · skip
        refine ov_blk (ls2 := [(0, ov_r 40), (1, ov_i g), (2, ov_i c)]) (st2 := [ov_i 1]) (pc2 := 34) b_128_33_1 rfl rfl ?_
        refine ov_goto (tgt := 38) d_128_34 (by decide) ?_
        exact ov_retz (st := []) d_128_38 rfl (by omega) ⟨_, rfl, rfl, rfl, (by show (1 = 0 ∨ 1 = 1) ∧ (1 = 1 → 0 ≤ c ∧ c < (((z.2.2 (h 40 0)).2 : Nat) : Int)); omega)⟩
abbrev P_Memo_number_40 (F : ov_H) (z : ov_Z) (h : ov_H) (c : Int) : Option ov_V → ov_Z → ov_H → Prop := fun r0 z' h' => ∃ r : Int, r0 = some (ov_i r) ∧ z = z' ∧ h = h' ∧ (-2147483648 ≤ r ∧ r ≤ 2147483647)
set_option maxHeartbeats 4000000 in
theorem c_Memo_number_40 {u : ov_U} {F : ov_H} {z : ov_Z} {h : ov_H} (d : Nat) (hd : 0 ≤ d) (U : ov_cap u) (I : ov_I F z h) (c : Int) (g_c : ov_g c) (p0 : 0 ≤ c ∧ c < (((z.2.2 (h 40 0)).2 : Nat) : Int)) : ov_T u d ov_m129 [ov_r 40, ov_i c] z h (P_Memo_number_40 F z h c) := by
  refine ov_en rfl (Nat.le_of_ble_eq_true rfl) ?_
  show ov_R u d ov_m129 0 [(0, ov_r 40), (1, ov_i c)] [] z h (P_Memo_number_40 F z h c)
  refine ov_blk (ls2 := [(0, ov_r 40), (1, ov_i c)]) (st2 := [ov_r 40]) (pc2 := 1) b_129_0_1 rfl rfl ?_
  refine ov_getf (v := ov_r (h 40 0)) d_129_1 fl_Memo_9 (zb_40 I) (zs_40 I) rfl ?_
  refine ov_blk (ls2 := [(0, ov_r 40), (1, ov_i c)]) (st2 := [ov_i c, ov_r (h 40 0)]) (pc2 := 5) b_129_4_1 rfl rfl ?_
  refine ov_lald d_129_5 (mm_40 I).1 (mm_40 I).2.1 (by omega) ?_
  refine ov_blk (ls2 := [(0, ov_r 40), (1, ov_i c)]) (st2 := [ov_i (h (h 40 0) c)]) (pc2 := 7) b_129_6_1 rfl rfl ?_
  refine ov_havw (fun w1 gw1 qw1 => ?_)
  exact ov_reti (st := []) d_129_7 rfl ⟨_, rfl, rfl, rfl, (by show -2147483648 ≤ w1 ∧ w1 ≤ 2147483647; omega)⟩
abbrev P_Memo_put_40 (F : ov_H) (z : ov_Z) (h : ov_H) (g : Int) (c : Int) (n : Int) : Option ov_V → ov_Z → ov_H → Prop := fun r0 z' h' => r0 = none ∧ ov_I F z' h' ∧ ((h' 36 7) = (h 36 7) ∧ (h' 1 1) = (h 1 1) ∧ (h' 90 2) = (h 90 2) ∧ (h' 0 10) = (h 0 10) ∧ (h' 0 11) = (h 0 11) ∧ (h' 0 12) = (h 0 12) ∧ (h' 0 13) = (h 0 13) ∧ (h' 3 1) = (h 3 1) ∧ (h' 36 8) = (h 36 8) ∧ (h' 46 3) = (h 46 3) ∧ (h' 46 4) = (h 46 4) ∧ (h' 49 4) = (h 49 4) ∧ (h' 49 5) = (h 49 5) ∧ (h' 64 0) = (h 64 0) ∧ (h' 76 0) = (h 76 0))
set_option maxHeartbeats 4000000 in
theorem c_Memo_put_40 {u : ov_U} {F : ov_H} {z : ov_Z} {h : ov_H} (d : Nat) (hd : 0 ≤ d) (U : ov_cap u) (I : ov_I F z h) (g : Int) (c : Int) (n : Int) (g_g : ov_g g) (g_c : ov_g c) (g_n : ov_g n) (p0 : 0 ≤ g ∧ g ≤ 53) : ov_T u d ov_m141 [ov_r 40, ov_i g, ov_i c, ov_i n] z h (P_Memo_put_40 F z h g c n) := by
  refine ov_en rfl (Nat.le_of_ble_eq_true rfl) ?_
  show ov_R u d ov_m141 0 [(0, ov_r 40), (1, ov_i g), (2, ov_i c), (3, ov_i n)] [] z h (P_Memo_put_40 F z h g c n)
  refine ov_blk (ls2 := [(0, ov_r 40), (1, ov_i g), (2, ov_i c), (3, ov_i n)]) (st2 := [ov_i c]) (pc2 := 1) b_141_0_1 rfl rfl ?_
  refine ov_iflt (tgt := 36) d_141_1 (by decide) (by omega) (fun c1 => ?_) (fun c1 => ?_)
  · skip
    exact ov_retv (st := []) d_141_36 rfl ⟨rfl, I, (by show (h 36 7) = (h 36 7) ∧ (h 1 1) = (h 1 1) ∧ (h 90 2) = (h 90 2) ∧ (h 0 10) = (h 0 10) ∧ (h 0 11) = (h 0 11) ∧ (h 0 12) = (h 0 12) ∧ (h 0 13) = (h 0 13) ∧ (h 3 1) = (h 3 1) ∧ (h 36 8) = (h 36 8) ∧ (h 46 3) = (h 46 3) ∧ (h 46 4) = (h 46 4) ∧ (h 49 4) = (h 49 4) ∧ (h 49 5) = (h 49 5) ∧ (h 64 0) = (h 64 0) ∧ (h 76 0) = (h 76 0); omega)⟩
  · skip
    refine ov_blk (ls2 := [(0, ov_r 40), (1, ov_i g), (2, ov_i c), (3, ov_i n)]) (st2 := [ov_r 40, ov_i c]) (pc2 := 6) b_141_4_2 rfl rfl ?_
    refine ov_getf (v := ov_r (h 40 0)) d_141_6 fl_Memo_9 (zb_40 I) (zs_40 I) rfl ?_
    refine ov_alen d_141_9 (mm_40 I).1 (mm_40 I).2.1 (by decide) ?_
    show ov_R u d ov_m141 10 [(0, ov_r 40), (1, ov_i g), (2, ov_i c), (3, ov_i n)] [ov_i (((z.2.2 (h 40 0)).2 : Nat) : Int), ov_i c] z h (P_Memo_put_40 F z h g c n)
    have g2 := (mm_40 I).2.2.1
    refine ov_icge (tgt := 36) d_141_10 (by decide) (by omega) (by omega) (fun c3 => ?_) (fun c3 => ?_)
    · skip
      exact ov_retv (st := []) d_141_36 rfl ⟨rfl, I, (by show (h 36 7) = (h 36 7) ∧ (h 1 1) = (h 1 1) ∧ (h 90 2) = (h 90 2) ∧ (h 0 10) = (h 0 10) ∧ (h 0 11) = (h 0 11) ∧ (h 0 12) = (h 0 12) ∧ (h 0 13) = (h 0 13) ∧ (h 3 1) = (h 3 1) ∧ (h 36 8) = (h 36 8) ∧ (h 46 3) = (h 46 3) ∧ (h 46 4) = (h 46 4) ∧ (h 49 4) = (h 49 4) ∧ (h 49 5) = (h 49 5) ∧ (h 64 0) = (h 64 0) ∧ (h 76 0) = (h 76 0); omega)⟩
    · skip
      refine ov_blk (ls2 := [(0, ov_r 40), (1, ov_i g), (2, ov_i c), (3, ov_i n)]) (st2 := [ov_r 40]) (pc2 := 14) b_141_13_1 rfl rfl ?_
      refine ov_getf (v := ov_r (h 40 0)) d_141_14 fl_Memo_9 (zb_40 I) (zs_40 I) rfl ?_
      refine ov_blk (ls2 := [(0, ov_r 40), (1, ov_i g), (2, ov_i c), (3, ov_i n)]) (st2 := [ov_r 40, ov_i c, ov_r (h 40 0)]) (pc2 := 19) b_141_17_2 rfl rfl ?_
      refine ov_getf (v := ov_r 42) d_141_19 fl_Memo_15 (zb_40 I) (zs_40 I) (congrArg ov_r (rg_40_1 I)) ?_
      refine ov_blk (ls2 := [(0, ov_r 40), (1, ov_i g), (2, ov_i c), (3, ov_i n)]) (st2 := [ov_i g, ov_r 42, ov_i c, ov_r (h 40 0)]) (pc2 := 23) b_141_22_1 rfl rfl ?_
      refine ov_iald d_141_23 (zb_42 I) (zs_42 I) (by omega) ?_
      have g4 := ra_42 I g
      refine ov_blk (ls2 := [(0, ov_r 40), (1, ov_i g), (2, ov_i c), (3, ov_i n)]) (st2 := [ov_l (ov_w n), ov_l (ov_lshl (ov_w (h 42 g)) 32), ov_i c, ov_r (h 40 0)]) (pc2 := 30) b_141_24_5 rfl rfl ?_
      have g5 := ov_wg (h 42 g)
      have g6 := ov_wq (h 42 g)
      have g7 := ov_wg n
      have g8 := ov_wq n
      refine ov_ldc2 (n := 4294967295) d_141_30 kc_Memo_35 ?_
      refine ov_blk (ls2 := [(0, ov_r 40), (1, ov_i g), (2, ov_i c), (3, ov_i n)]) (st2 := [ov_l (ov_lor (ov_lshl (ov_w (h 42 g)) 32) (ov_land (ov_w n) 4294967295)), ov_i c, ov_r (h 40 0)]) (pc2 := 35) b_141_33_2 rfl rfl ?_
      refine ov_last d_141_35 (mm_40 I).1 (mm_40 I).2.1 (by omega) ?_
      have I9 := ov_I_um (b := (h 40 0)) (k := c) (x := (ov_lor (ov_lshl (ov_w (h 42 g)) 32) (ov_land (ov_w n) 4294967295))) I (by have := (mm_40 I).2.2.2; omega)
      have e11 : (ov_up h (h 40 0) c (ov_lor (ov_lshl (ov_w (h 42 g)) 32) (ov_land (ov_w n) 4294967295))) 36 7 = h 36 7 := ov_um_lt (mm_40 I).2.2.2 (by decide) (by decide) _
      have e12 : (ov_up h (h 40 0) c (ov_lor (ov_lshl (ov_w (h 42 g)) 32) (ov_land (ov_w n) 4294967295))) 1 1 = h 1 1 := ov_um_lt (mm_40 I).2.2.2 (by decide) (by decide) _
      have e13 : (ov_up h (h 40 0) c (ov_lor (ov_lshl (ov_w (h 42 g)) 32) (ov_land (ov_w n) 4294967295))) 90 2 = h 90 2 := ov_um_lt (mm_40 I).2.2.2 (by decide) (by decide) _
      have e14 : (ov_up h (h 40 0) c (ov_lor (ov_lshl (ov_w (h 42 g)) 32) (ov_land (ov_w n) 4294967295))) 0 10 = h 0 10 := ov_um_lt (mm_40 I).2.2.2 (by decide) (by decide) _
      have e15 : (ov_up h (h 40 0) c (ov_lor (ov_lshl (ov_w (h 42 g)) 32) (ov_land (ov_w n) 4294967295))) 0 11 = h 0 11 := ov_um_lt (mm_40 I).2.2.2 (by decide) (by decide) _
      have e16 : (ov_up h (h 40 0) c (ov_lor (ov_lshl (ov_w (h 42 g)) 32) (ov_land (ov_w n) 4294967295))) 0 12 = h 0 12 := ov_um_lt (mm_40 I).2.2.2 (by decide) (by decide) _
      have e17 : (ov_up h (h 40 0) c (ov_lor (ov_lshl (ov_w (h 42 g)) 32) (ov_land (ov_w n) 4294967295))) 0 13 = h 0 13 := ov_um_lt (mm_40 I).2.2.2 (by decide) (by decide) _
      have e18 : (ov_up h (h 40 0) c (ov_lor (ov_lshl (ov_w (h 42 g)) 32) (ov_land (ov_w n) 4294967295))) 3 1 = h 3 1 := ov_um_lt (mm_40 I).2.2.2 (by decide) (by decide) _
      have e19 : (ov_up h (h 40 0) c (ov_lor (ov_lshl (ov_w (h 42 g)) 32) (ov_land (ov_w n) 4294967295))) 36 8 = h 36 8 := ov_um_lt (mm_40 I).2.2.2 (by decide) (by decide) _
      have e20 : (ov_up h (h 40 0) c (ov_lor (ov_lshl (ov_w (h 42 g)) 32) (ov_land (ov_w n) 4294967295))) 46 3 = h 46 3 := ov_um_lt (mm_40 I).2.2.2 (by decide) (by decide) _
      have e21 : (ov_up h (h 40 0) c (ov_lor (ov_lshl (ov_w (h 42 g)) 32) (ov_land (ov_w n) 4294967295))) 46 4 = h 46 4 := ov_um_lt (mm_40 I).2.2.2 (by decide) (by decide) _
      have e22 : (ov_up h (h 40 0) c (ov_lor (ov_lshl (ov_w (h 42 g)) 32) (ov_land (ov_w n) 4294967295))) 49 4 = h 49 4 := ov_um_lt (mm_40 I).2.2.2 (by decide) (by decide) _
      have e23 : (ov_up h (h 40 0) c (ov_lor (ov_lshl (ov_w (h 42 g)) 32) (ov_land (ov_w n) 4294967295))) 49 5 = h 49 5 := ov_um_lt (mm_40 I).2.2.2 (by decide) (by decide) _
      have e24 : (ov_up h (h 40 0) c (ov_lor (ov_lshl (ov_w (h 42 g)) 32) (ov_land (ov_w n) 4294967295))) 64 0 = h 64 0 := ov_um_lt (mm_40 I).2.2.2 (by decide) (by decide) _
      have e25 : (ov_up h (h 40 0) c (ov_lor (ov_lshl (ov_w (h 42 g)) 32) (ov_land (ov_w n) 4294967295))) 76 0 = h 76 0 := ov_um_lt (mm_40 I).2.2.2 (by decide) (by decide) _
      generalize (ov_up h (h 40 0) c (ov_lor (ov_lshl (ov_w (h 42 g)) 32) (ov_land (ov_w n) 4294967295))) = h10 at I9 e11 e12 e13 e14 e15 e16 e17 e18 e19 e20 e21 e22 e23 e24 e25 ⊢
      exact ov_retv (st := []) d_141_36 rfl ⟨rfl, I9, (by show (h10 36 7) = (h 36 7) ∧ (h10 1 1) = (h 1 1) ∧ (h10 90 2) = (h 90 2) ∧ (h10 0 10) = (h 0 10) ∧ (h10 0 11) = (h 0 11) ∧ (h10 0 12) = (h 0 12) ∧ (h10 0 13) = (h 0 13) ∧ (h10 3 1) = (h 3 1) ∧ (h10 36 8) = (h 36 8) ∧ (h10 46 3) = (h 46 3) ∧ (h10 46 4) = (h 46 4) ∧ (h10 49 4) = (h 49 4) ∧ (h10 49 5) = (h 49 5) ∧ (h10 64 0) = (h 64 0) ∧ (h10 76 0) = (h 76 0); omega)⟩
abbrev P_Memo_clearBefore_40 (F : ov_H) (z : ov_Z) (h : ov_H) (c : Int) : Option ov_V → ov_Z → ov_H → Prop := fun r0 z' h' => r0 = none ∧ ov_I F z' h' ∧ ((h' 36 7) = (h 36 7) ∧ (h' 1 1) = (h 1 1) ∧ (h' 90 2) = (h 90 2) ∧ (h' 0 10) = (h 0 10) ∧ (h' 0 11) = (h 0 11) ∧ (h' 0 12) = (h 0 12) ∧ (h' 0 13) = (h 0 13) ∧ (h' 3 1) = (h 3 1) ∧ (h' 36 8) = (h 36 8) ∧ (h' 46 3) = (h 46 3) ∧ (h' 46 4) = (h 46 4) ∧ (h' 49 4) = (h 49 4) ∧ (h' 49 5) = (h 49 5) ∧ (h' 64 0) = (h 64 0) ∧ (h' 76 0) = (h 76 0))
set_option maxHeartbeats 4000000 in
theorem c_Memo_clearBefore_40 {u : ov_U} {F : ov_H} {z : ov_Z} {h : ov_H} (d : Nat) (hd : 0 ≤ d) (U : ov_cap u) (I : ov_I F z h) (c : Int) (g_c : ov_g c) (p0 : 0 ≤ c ∧ c ≤ 53) : ov_T u d ov_m148 [ov_r 40, ov_i c] z h (P_Memo_clearBefore_40 F z h c) := by
  refine ov_en rfl (Nat.le_of_ble_eq_true rfl) ?_
  show ov_R u d ov_m148 0 [(0, ov_r 40), (1, ov_i c)] [] z h (P_Memo_clearBefore_40 F z h c)
  refine ov_blk (ls2 := [(0, ov_r 40), (1, ov_i c)]) (st2 := [ov_r 40, ov_r 40]) (pc2 := 2) b_148_0_2 rfl rfl ?_
  refine ov_getf (v := ov_i (h 40 2)) d_148_2 fl_Memo_25 (zb_40 I) (zs_40 I) rfl ?_
  have g1 := rg_40_2 I
  refine ov_blk (ls2 := [(0, ov_r 40), (1, ov_i c)]) (st2 := [ov_i ((h 40 2) + 1), ov_r 40]) (pc2 := 7) b_148_5_2 rfl rfl ?_
  refine ov_havw (fun w2 gw2 qw2 => ?_)
  refine ov_putf (x := w2) d_148_7 fl_Memo_25 (zb_40 I) (zs_40 I) rfl nk_0 rfl ?_
  have I3 := up_40_2 (x := w2) I (by omega)
  refine ov_blk (ls2 := [(0, ov_r 40), (1, ov_i c), (2, ov_i 0)]) (st2 := []) (pc2 := 12) b_148_10_2 rfl rfl ?_
  have L7 : ∀ (n4 : Nat) (x2 : Int) (z8 : ov_Z) (h9 : ov_H) (I10 : ov_I F z8 h9) (q6 : 0 ≤ x2 ∧ x2 ≤ 54 ∧ (h9 36 7) = (h 36 7) ∧ (h9 1 1) = (h 1 1) ∧ (h9 90 2) = (h 90 2) ∧ (h9 0 10) = (h 0 10) ∧ (h9 0 11) = (h 0 11) ∧ (h9 0 12) = (h 0 12) ∧ (h9 0 13) = (h 0 13) ∧ (h9 3 1) = (h 3 1) ∧ (h9 36 8) = (h 36 8) ∧ (h9 46 3) = (h 46 3) ∧ (h9 46 4) = (h 46 4) ∧ (h9 49 4) = (h 49 4) ∧ (h9 49 5) = (h 49 5) ∧ (h9 64 0) = (h 64 0) ∧ (h9 76 0) = (h 76 0)), 54 - x2 < (n4 : Int) → ov_R u d ov_m148 12 [(0, ov_r 40), (1, ov_i c), (2, ov_i x2)] [] z8 h9 (P_Memo_clearBefore_40 F z h c) := by
    intro n4
    induction n4 with
    | zero =>
      intro x2 z8 h9 I10 q6 hn11
      exact absurd hn11 (by omega)
    | succ n4 ih5 =>
      intro x2 z8 h9 I10 q6 hn11
      refine ov_blk (ls2 := [(0, ov_r 40), (1, ov_i c), (2, ov_i x2)]) (st2 := [ov_i c, ov_i x2]) (pc2 := 14) b_148_12_2 rfl rfl ?_
      refine ov_icgt (tgt := 44) d_148_14 (by decide) (by omega) (by omega) (fun c12 => ?_) (fun c12 => ?_)
      · skip
        exact ov_retv (st := []) d_148_44 rfl ⟨rfl, I10, (by show (h9 36 7) = (h 36 7) ∧ (h9 1 1) = (h 1 1) ∧ (h9 90 2) = (h 90 2) ∧ (h9 0 10) = (h 0 10) ∧ (h9 0 11) = (h 0 11) ∧ (h9 0 12) = (h 0 12) ∧ (h9 0 13) = (h 0 13) ∧ (h9 3 1) = (h 3 1) ∧ (h9 36 8) = (h 36 8) ∧ (h9 46 3) = (h 46 3) ∧ (h9 46 4) = (h 46 4) ∧ (h9 49 4) = (h 49 4) ∧ (h9 49 5) = (h 49 5) ∧ (h9 64 0) = (h 64 0) ∧ (h9 76 0) = (h 76 0); omega)⟩
      · skip
        refine ov_blk (ls2 := [(0, ov_r 40), (1, ov_i c), (2, ov_i x2)]) (st2 := [ov_i 6, ov_i x2]) (pc2 := 20) b_148_17_2 rfl rfl ?_
        refine ov_irem d_148_20 (by omega) (by omega) (by omega) ?_
        have g13 := ov_tm (a := x2) (b := 6) (by omega)
        have g14 := ov_tmg (a := x2) (b := 6) (by omega) (by omega)
        refine ov_blk (ls2 := [(0, ov_r 40), (1, ov_i c), (2, ov_i x2)]) (st2 := [ov_i 6, ov_i c, ov_i (Int.tmod x2 6)]) (pc2 := 24) b_148_21_2 rfl rfl ?_
        refine ov_irem d_148_24 (by omega) (by omega) (by omega) ?_
        have g15 := ov_tm (a := c) (b := 6) (by omega)
        have g16 := ov_tmg (a := c) (b := 6) (by omega) (by omega)
        refine ov_icgt (tgt := 38) d_148_25 (by decide) (by omega) (by omega) (fun c17 => ?_) (fun c17 => ?_)
        · skip
          refine ov_blk (ls2 := [(0, ov_r 40), (1, ov_i c), (2, ov_i (x2 + 1))]) (st2 := []) (pc2 := 41) b_148_38_1 rfl rfl ?_
          refine ov_goto (tgt := 12) d_148_41 (by decide) ?_
          exact ih5 (x2 + 1) _ _ I10 (by show 0 ≤ (x2 + 1) ∧ (x2 + 1) ≤ 54 ∧ (h9 36 7) = (h 36 7) ∧ (h9 1 1) = (h 1 1) ∧ (h9 90 2) = (h 90 2) ∧ (h9 0 10) = (h 0 10) ∧ (h9 0 11) = (h 0 11) ∧ (h9 0 12) = (h 0 12) ∧ (h9 0 13) = (h 0 13) ∧ (h9 3 1) = (h 3 1) ∧ (h9 36 8) = (h 36 8) ∧ (h9 46 3) = (h 46 3) ∧ (h9 46 4) = (h 46 4) ∧ (h9 49 4) = (h 49 4) ∧ (h9 49 5) = (h 49 5) ∧ (h9 64 0) = (h 64 0) ∧ (h9 76 0) = (h 76 0); omega) (by omega)
        · skip
          refine ov_blk (ls2 := [(0, ov_r 40), (1, ov_i c), (2, ov_i x2)]) (st2 := [ov_r 40]) (pc2 := 29) b_148_28_1 rfl rfl ?_
          refine ov_getf (v := ov_r 42) d_148_29 fl_Memo_15 (zb_40 I10) (zs_40 I10) (congrArg ov_r (rg_40_1 I10)) ?_
          refine ov_blk (ls2 := [(0, ov_r 40), (1, ov_i c), (2, ov_i x2)]) (st2 := [ov_r 40, ov_i x2, ov_r 42]) (pc2 := 34) b_148_32_2 rfl rfl ?_
          refine ov_getf (v := ov_i (h9 40 2)) d_148_34 fl_Memo_25 (zb_40 I10) (zs_40 I10) rfl ?_
          have g18 := rg_40_2 I10
          refine ov_iast d_148_37 (zb_42 I10) (zs_42 I10) (by omega) ?_
          have I19 := ua_42 (k := x2) (x := (h9 40 2)) I10 (by omega)
          refine ov_blk (ls2 := [(0, ov_r 40), (1, ov_i c), (2, ov_i (x2 + 1))]) (st2 := []) (pc2 := 41) b_148_38_1 rfl rfl ?_
          refine ov_goto (tgt := 12) d_148_41 (by decide) ?_
          exact ih5 (x2 + 1) _ _ I19 (by show 0 ≤ (x2 + 1) ∧ (x2 + 1) ≤ 54 ∧ (h9 36 7) = (h 36 7) ∧ (h9 1 1) = (h 1 1) ∧ (h9 90 2) = (h 90 2) ∧ (h9 0 10) = (h 0 10) ∧ (h9 0 11) = (h 0 11) ∧ (h9 0 12) = (h 0 12) ∧ (h9 0 13) = (h 0 13) ∧ (h9 3 1) = (h 3 1) ∧ (h9 36 8) = (h 36 8) ∧ (h9 46 3) = (h 46 3) ∧ (h9 46 4) = (h 46 4) ∧ (h9 49 4) = (h 49 4) ∧ (h9 49 5) = (h 49 5) ∧ (h9 64 0) = (h 64 0) ∧ (h9 76 0) = (h 76 0); omega) (by omega)
  exact L7 55 0 _ _ I3 (by show 0 ≤ 0 ∧ 0 ≤ 54 ∧ (h 36 7) = (h 36 7) ∧ (h 1 1) = (h 1 1) ∧ (h 90 2) = (h 90 2) ∧ (h 0 10) = (h 0 10) ∧ (h 0 11) = (h 0 11) ∧ (h 0 12) = (h 0 12) ∧ (h 0 13) = (h 0 13) ∧ (h 3 1) = (h 3 1) ∧ (h 36 8) = (h 36 8) ∧ (h 46 3) = (h 46 3) ∧ (h 46 4) = (h 46 4) ∧ (h 49 4) = (h 49 4) ∧ (h 49 5) = (h 49 5) ∧ (h 64 0) = (h 64 0) ∧ (h 76 0) = (h 76 0); omega) (by omega)
abbrev P_Memo_clear_40 (F : ov_H) (z : ov_Z) (h : ov_H) (n : Int) : Option ov_V → ov_Z → ov_H → Prop := fun r0 z' h' => r0 = none ∧ ov_I F z' h' ∧ ((h' 36 7) = (h 36 7) ∧ (h' 1 1) = (h 1 1) ∧ (h' 90 2) = (h 90 2) ∧ (h' 0 10) = (h 0 10) ∧ (h' 0 11) = (h 0 11) ∧ (h' 0 12) = (h 0 12) ∧ (h' 0 13) = (h 0 13) ∧ (h' 3 1) = (h 3 1) ∧ (h' 36 8) = (h 36 8) ∧ (h' 46 3) = (h 46 3) ∧ (h' 46 4) = (h 46 4) ∧ (h' 49 4) = (h 49 4) ∧ (h' 49 5) = (h 49 5) ∧ (h' 64 0) = (h 64 0) ∧ (h' 76 0) = (h 76 0))
set_option maxHeartbeats 4000000 in
theorem c_Memo_clear_40 {u : ov_U} {F : ov_H} {z : ov_Z} {h : ov_H} (d : Nat) (hd : 1 ≤ d) (U : ov_cap u) (I : ov_I F z h) (n : Int) (g_n : ov_g n) (p0 : n ≤ 62532) : ov_T u d ov_m124 [ov_r 40, ov_i n] z h (P_Memo_clear_40 F z h n) := by
  refine ov_en rfl (Nat.le_of_ble_eq_true rfl) ?_
  show ov_R u d ov_m124 0 [(0, ov_r 40), (1, ov_i n)] [] z h (P_Memo_clear_40 F z h n)
  refine ov_blk (ls2 := [(0, ov_r 40), (1, ov_i n)]) (st2 := [ov_r 40, ov_i n]) (pc2 := 2) b_124_0_2 rfl rfl ?_
  refine ov_getf (v := ov_r (h 40 0)) d_124_2 fl_Memo_9 (zb_40 I) (zs_40 I) rfl ?_
  refine ov_alen d_124_5 (mm_40 I).1 (mm_40 I).2.1 (by decide) ?_
  show ov_R u d ov_m124 6 [(0, ov_r 40), (1, ov_i n)] [ov_i (((z.2.2 (h 40 0)).2 : Nat) : Int), ov_i n] z h (P_Memo_clear_40 F z h n)
  have g1 := (mm_40 I).2.2.1
  refine ov_icle (tgt := 26) d_124_6 (by decide) (by omega) (by omega) (fun c2 => ?_) (fun c2 => ?_)
  · skip
    refine ov_blk (ls2 := [(0, ov_r 40), (1, ov_i n)]) (st2 := [ov_r 40, ov_r 40]) (pc2 := 28) b_124_26_2 rfl rfl ?_
    refine ov_getf (v := ov_i (h 40 2)) d_124_28 fl_Memo_25 (zb_40 I) (zs_40 I) rfl ?_
    have g3 := rg_40_2 I
    refine ov_blk (ls2 := [(0, ov_r 40), (1, ov_i n)]) (st2 := [ov_i ((h 40 2) + 1), ov_r 40]) (pc2 := 33) b_124_31_2 rfl rfl ?_
    refine ov_havw (fun w4 gw4 qw4 => ?_)
    refine ov_putf (x := w4) d_124_33 fl_Memo_25 (zb_40 I) (zs_40 I) rfl nk_0 rfl ?_
    have I5 := up_40_2 (x := w4) I (by omega)
    refine ov_blk (ls2 := [(0, ov_r 40), (1, ov_i n)]) (st2 := [ov_r 40]) (pc2 := 37) b_124_36_1 rfl rfl ?_
    refine ov_getf (v := ov_r 42) d_124_37 fl_Memo_15 (zb_40 I5) (zs_40 I5) (congrArg ov_r (rg_40_1 I5)) ?_
    refine ov_blk (ls2 := [(0, ov_r 40), (1, ov_i n)]) (st2 := [ov_r 40, ov_r 42]) (pc2 := 41) b_124_40_1 rfl rfl ?_
    refine ov_getf (v := ov_i w4) d_124_41 fl_Memo_25 (zb_40 I5) (zs_40 I5) rfl ?_
    refine ov_cS (as := [ov_r 42, ov_i w4]) (st := []) (d2 := d - 1) d_124_44 lk_Memo_29 rfl (Nat.le_of_ble_eq_true rfl) (by omega) (c_Arrays_fill_AIIV_42 (d - 1) (by omega) U I5 w4 (by omega) (by omega)) ?_
    rintro _ z7 h8 ⟨rfl, I9, f6⟩
    show ov_R u d ov_m124 47 [(0, ov_r 40), (1, ov_i n)] [] z7 h8 (P_Memo_clear_40 F z h n)
    have f10 : (h8 36 7) = (h 36 7) ∧ (h8 1 1) = (h 1 1) ∧ (h8 90 2) = (h 90 2) ∧ (h8 0 10) = (h 0 10) ∧ (h8 0 11) = (h 0 11) ∧ (h8 0 12) = (h 0 12) ∧ (h8 0 13) = (h 0 13) ∧ (h8 3 1) = (h 3 1) ∧ (h8 36 8) = (h 36 8) ∧ (h8 46 3) = (h 46 3) ∧ (h8 46 4) = (h 46 4) ∧ (h8 49 4) = (h 49 4) ∧ (h8 49 5) = (h 49 5) ∧ (h8 64 0) = (h 64 0) ∧ (h8 76 0) = (h 76 0) := f6
    clear f6
    exact ov_retv (st := []) d_124_47 rfl ⟨rfl, I9, (by show (h8 36 7) = (h 36 7) ∧ (h8 1 1) = (h 1 1) ∧ (h8 90 2) = (h 90 2) ∧ (h8 0 10) = (h 0 10) ∧ (h8 0 11) = (h 0 11) ∧ (h8 0 12) = (h 0 12) ∧ (h8 0 13) = (h 0 13) ∧ (h8 3 1) = (h 3 1) ∧ (h8 36 8) = (h 36 8) ∧ (h8 46 3) = (h 46 3) ∧ (h8 46 4) = (h 46 4) ∧ (h8 49 4) = (h 49 4) ∧ (h8 49 5) = (h 49 5) ∧ (h8 64 0) = (h 64 0) ∧ (h8 76 0) = (h 76 0); omega)⟩
  · skip
    refine ov_blk (ls2 := [(0, ov_r 40), (1, ov_i n)]) (st2 := [ov_r 40, ov_i 2, ov_i n, ov_r 40]) (pc2 := 13) b_124_9_4 rfl rfl ?_
    refine ov_getf (v := ov_r (h 40 0)) d_124_13 fl_Memo_9 (zb_40 I) (zs_40 I) rfl ?_
    refine ov_alen d_124_16 (mm_40 I).1 (mm_40 I).2.1 (by decide) ?_
    show ov_R u d ov_m124 17 [(0, ov_r 40), (1, ov_i n)] [ov_i (((z.2.2 (h 40 0)).2 : Nat) : Int), ov_i 2, ov_i n, ov_r 40] z h (P_Memo_clear_40 F z h n)
    have g11 := (mm_40 I).2.2.1
    refine ov_blk (ls2 := [(0, ov_r 40), (1, ov_i n)]) (st2 := [ov_i (2 * (((z.2.2 (h 40 0)).2 : Nat) : Int)), ov_i n, ov_r 40]) (pc2 := 18) b_124_17_1 rfl rfl ?_
    refine ov_cS (as := [ov_i n, ov_i (2 * (((z.2.2 (h 40 0)).2 : Nat) : Int))]) (st := [ov_r 40]) (d2 := d - 1) d_124_18 lk_Memo_19 rfl (Nat.le_of_ble_eq_true rfl) (by omega) (c_Math_max (d - 1) (by omega) U I n (2 * (((z.2.2 (h 40 0)).2 : Nat) : Int)) (by omega) (by omega)) ?_
    rintro _ _ _ ⟨v13, rfl, rfl, rfl, f12⟩
    show ov_R u d ov_m124 21 [(0, ov_r 40), (1, ov_i n)] [ov_i v13, ov_r 40] z h (P_Memo_clear_40 F z h n)
    have f14 : n ≤ v13 ∧ (2 * (((z.2.2 (h 40 0)).2 : Nat) : Int)) ≤ v13 ∧ (v13 = n ∨ v13 = (2 * (((z.2.2 (h 40 0)).2 : Nat) : Int))) := f12
    clear f12
    have rm := ov_mroom (n := v13) U I (by omega)
    refine ov_newl d_124_21 aw_long (by omega) rm.1 rm.2 ?_
    have zl := I.1.1.1
    refine ov_putf (x := (z.1 : Int)) d_124_23 fl_Memo_9 ⟨by decide, by show (40 : Int) < ((z.1 + 1 : Nat) : Int); omega⟩ (show (if (40 : Int) = (z.1 : Int) then _ else z.2.2 40) = _ by rw [if_neg (by omega)]; exact zs_40 I) rfl nk_2 rfl ?_
    have I15 := mk_40 (n := v13) I (by omega) (by omega) (by omega)
    have e18 : (ov_up (ov_nw h (z.1 : Int) (fun _ => 0)) 40 0 (z.1 : Int)) 36 7 = h 36 7 := by rw [ov_up_ne (by decide), ov_nw_lt zl (by decide)]
    have e19 : (ov_up (ov_nw h (z.1 : Int) (fun _ => 0)) 40 0 (z.1 : Int)) 1 1 = h 1 1 := by rw [ov_up_ne (by decide), ov_nw_lt zl (by decide)]
    have e20 : (ov_up (ov_nw h (z.1 : Int) (fun _ => 0)) 40 0 (z.1 : Int)) 90 2 = h 90 2 := by rw [ov_up_ne (by decide), ov_nw_lt zl (by decide)]
    have e21 : (ov_up (ov_nw h (z.1 : Int) (fun _ => 0)) 40 0 (z.1 : Int)) 0 10 = h 0 10 := by rw [ov_up_ne (by decide), ov_nw_lt zl (by decide)]
    have e22 : (ov_up (ov_nw h (z.1 : Int) (fun _ => 0)) 40 0 (z.1 : Int)) 0 11 = h 0 11 := by rw [ov_up_ne (by decide), ov_nw_lt zl (by decide)]
    have e23 : (ov_up (ov_nw h (z.1 : Int) (fun _ => 0)) 40 0 (z.1 : Int)) 0 12 = h 0 12 := by rw [ov_up_ne (by decide), ov_nw_lt zl (by decide)]
    have e24 : (ov_up (ov_nw h (z.1 : Int) (fun _ => 0)) 40 0 (z.1 : Int)) 0 13 = h 0 13 := by rw [ov_up_ne (by decide), ov_nw_lt zl (by decide)]
    have e25 : (ov_up (ov_nw h (z.1 : Int) (fun _ => 0)) 40 0 (z.1 : Int)) 3 1 = h 3 1 := by rw [ov_up_ne (by decide), ov_nw_lt zl (by decide)]
    have e26 : (ov_up (ov_nw h (z.1 : Int) (fun _ => 0)) 40 0 (z.1 : Int)) 36 8 = h 36 8 := by rw [ov_up_ne (by decide), ov_nw_lt zl (by decide)]
    have e27 : (ov_up (ov_nw h (z.1 : Int) (fun _ => 0)) 40 0 (z.1 : Int)) 46 3 = h 46 3 := by rw [ov_up_ne (by decide), ov_nw_lt zl (by decide)]
    have e28 : (ov_up (ov_nw h (z.1 : Int) (fun _ => 0)) 40 0 (z.1 : Int)) 46 4 = h 46 4 := by rw [ov_up_ne (by decide), ov_nw_lt zl (by decide)]
    have e29 : (ov_up (ov_nw h (z.1 : Int) (fun _ => 0)) 40 0 (z.1 : Int)) 49 4 = h 49 4 := by rw [ov_up_ne (by decide), ov_nw_lt zl (by decide)]
    have e30 : (ov_up (ov_nw h (z.1 : Int) (fun _ => 0)) 40 0 (z.1 : Int)) 49 5 = h 49 5 := by rw [ov_up_ne (by decide), ov_nw_lt zl (by decide)]
    have e31 : (ov_up (ov_nw h (z.1 : Int) (fun _ => 0)) 40 0 (z.1 : Int)) 64 0 = h 64 0 := by rw [ov_up_ne (by decide), ov_nw_lt zl (by decide)]
    have e32 : (ov_up (ov_nw h (z.1 : Int) (fun _ => 0)) 40 0 (z.1 : Int)) 76 0 = h 76 0 := by rw [ov_up_ne (by decide), ov_nw_lt zl (by decide)]
    show ov_R u d ov_m124 26 [(0, ov_r 40), (1, ov_i n)] [] (ov_zn z (1, (v13).toNat)) (ov_up (ov_nw h (z.1 : Int) (fun _ => 0)) 40 0 (z.1 : Int)) (P_Memo_clear_40 F z h n)
    generalize (ov_up (ov_nw h (z.1 : Int) (fun _ => 0)) 40 0 (z.1 : Int)) = h16 at I15 e18 e19 e20 e21 e22 e23 e24 e25 e26 e27 e28 e29 e30 e31 e32 ⊢
    generalize (ov_zn z (1, (v13).toNat)) = z17 at I15 ⊢
    refine ov_blk (ls2 := [(0, ov_r 40), (1, ov_i n)]) (st2 := [ov_r 40, ov_r 40]) (pc2 := 28) b_124_26_2 rfl rfl ?_
    refine ov_getf (v := ov_i (h16 40 2)) d_124_28 fl_Memo_25 (zb_40 I15) (zs_40 I15) rfl ?_
    have g33 := rg_40_2 I15
    refine ov_blk (ls2 := [(0, ov_r 40), (1, ov_i n)]) (st2 := [ov_i ((h16 40 2) + 1), ov_r 40]) (pc2 := 33) b_124_31_2 rfl rfl ?_
    refine ov_havw (fun w34 gw34 qw34 => ?_)
    refine ov_putf (x := w34) d_124_33 fl_Memo_25 (zb_40 I15) (zs_40 I15) rfl nk_0 rfl ?_
    have I35 := up_40_2 (x := w34) I15 (by omega)
    refine ov_blk (ls2 := [(0, ov_r 40), (1, ov_i n)]) (st2 := [ov_r 40]) (pc2 := 37) b_124_36_1 rfl rfl ?_
    refine ov_getf (v := ov_r 42) d_124_37 fl_Memo_15 (zb_40 I35) (zs_40 I35) (congrArg ov_r (rg_40_1 I35)) ?_
    refine ov_blk (ls2 := [(0, ov_r 40), (1, ov_i n)]) (st2 := [ov_r 40, ov_r 42]) (pc2 := 41) b_124_40_1 rfl rfl ?_
    refine ov_getf (v := ov_i w34) d_124_41 fl_Memo_25 (zb_40 I35) (zs_40 I35) rfl ?_
    refine ov_cS (as := [ov_r 42, ov_i w34]) (st := []) (d2 := d - 1) d_124_44 lk_Memo_29 rfl (Nat.le_of_ble_eq_true rfl) (by omega) (c_Arrays_fill_AIIV_42 (d - 1) (by omega) U I35 w34 (by omega) (by omega)) ?_
    rintro _ z37 h38 ⟨rfl, I39, f36⟩
    show ov_R u d ov_m124 47 [(0, ov_r 40), (1, ov_i n)] [] z37 h38 (P_Memo_clear_40 F z h n)
    have f40 : (h38 36 7) = (h16 36 7) ∧ (h38 1 1) = (h16 1 1) ∧ (h38 90 2) = (h16 90 2) ∧ (h38 0 10) = (h16 0 10) ∧ (h38 0 11) = (h16 0 11) ∧ (h38 0 12) = (h16 0 12) ∧ (h38 0 13) = (h16 0 13) ∧ (h38 3 1) = (h16 3 1) ∧ (h38 36 8) = (h16 36 8) ∧ (h38 46 3) = (h16 46 3) ∧ (h38 46 4) = (h16 46 4) ∧ (h38 49 4) = (h16 49 4) ∧ (h38 49 5) = (h16 49 5) ∧ (h38 64 0) = (h16 64 0) ∧ (h38 76 0) = (h16 76 0) := f36
    clear f36
    exact ov_retv (st := []) d_124_47 rfl ⟨rfl, I39, (by show (h38 36 7) = (h 36 7) ∧ (h38 1 1) = (h 1 1) ∧ (h38 90 2) = (h 90 2) ∧ (h38 0 10) = (h 0 10) ∧ (h38 0 11) = (h 0 11) ∧ (h38 0 12) = (h 0 12) ∧ (h38 0 13) = (h 0 13) ∧ (h38 3 1) = (h 3 1) ∧ (h38 36 8) = (h 36 8) ∧ (h38 46 3) = (h 46 3) ∧ (h38 46 4) = (h 46 4) ∧ (h38 49 4) = (h 49 4) ∧ (h38 49 5) = (h 49 5) ∧ (h38 64 0) = (h 64 0) ∧ (h38 76 0) = (h 76 0); omega)⟩
abbrev P_Memo_holds_51 (F : ov_H) (z : ov_Z) (h : ov_H) (g : Int) (c : Int) : Option ov_V → ov_Z → ov_H → Prop := fun r0 z' h' => ∃ r : Int, r0 = some (ov_i r) ∧ z = z' ∧ h = h' ∧ ((r = 0 ∨ r = 1) ∧ (r = 1 → 0 ≤ c ∧ c < (((z.2.2 (h 51 0)).2 : Nat) : Int)))
set_option maxHeartbeats 4000000 in
theorem c_Memo_holds_51 {u : ov_U} {F : ov_H} {z : ov_Z} {h : ov_H} (d : Nat) (hd : 0 ≤ d) (U : ov_cap u) (I : ov_I F z h) (g : Int) (c : Int) (g_g : ov_g g) (g_c : ov_g c) (p0 : 0 ≤ g ∧ g ≤ 53) : ov_T u d ov_m128 [ov_r 51, ov_i g, ov_i c] z h (P_Memo_holds_51 F z h g c) := by
  refine ov_en rfl (Nat.le_of_ble_eq_true rfl) ?_
  show ov_R u d ov_m128 0 [(0, ov_r 51), (1, ov_i g), (2, ov_i c)] [] z h (P_Memo_holds_51 F z h g c)
  refine ov_blk (ls2 := [(0, ov_r 51), (1, ov_i g), (2, ov_i c)]) (st2 := [ov_i c]) (pc2 := 1) b_128_0_1 rfl rfl ?_
  refine ov_iflt (tgt := 37) d_128_1 (by decide) (by omega) (fun c1 => ?_) (fun c1 => ?_)
  · skip
    refine ov_blk (ls2 := [(0, ov_r 51), (1, ov_i g), (2, ov_i c)]) (st2 := [ov_i 0]) (pc2 := 38) b_128_37_1 rfl rfl ?_
    exact ov_retz (st := []) d_128_38 rfl (by omega) ⟨_, rfl, rfl, rfl, (by show (0 = 0 ∨ 0 = 1) ∧ (0 = 1 → 0 ≤ c ∧ c < (((z.2.2 (h 51 0)).2 : Nat) : Int)); omega)⟩
  · skip
    refine ov_blk (ls2 := [(0, ov_r 51), (1, ov_i g), (2, ov_i c)]) (st2 := [ov_r 51, ov_i c]) (pc2 := 6) b_128_4_2 rfl rfl ?_
    refine ov_getf (v := ov_r (h 51 0)) d_128_6 fl_Memo_9 (zb_51 I) (zs_51 I) rfl ?_
    refine ov_alen d_128_9 (mm_51 I).1 (mm_51 I).2.1 (by decide) ?_
    show ov_R u d ov_m128 10 [(0, ov_r 51), (1, ov_i g), (2, ov_i c)] [ov_i (((z.2.2 (h 51 0)).2 : Nat) : Int), ov_i c] z h (P_Memo_holds_51 F z h g c)
    have g2 := (mm_51 I).2.2.1
    refine ov_icge (tgt := 37) d_128_10 (by decide) (by omega) (by omega) (fun c3 => ?_) (fun c3 => ?_)
    · skip
      refine ov_blk (ls2 := [(0, ov_r 51), (1, ov_i g), (2, ov_i c)]) (st2 := [ov_i 0]) (pc2 := 38) b_128_37_1 rfl rfl ?_
      exact ov_retz (st := []) d_128_38 rfl (by omega) ⟨_, rfl, rfl, rfl, (by show (0 = 0 ∨ 0 = 1) ∧ (0 = 1 → 0 ≤ c ∧ c < (((z.2.2 (h 51 0)).2 : Nat) : Int)); omega)⟩
    · skip
      refine ov_blk (ls2 := [(0, ov_r 51), (1, ov_i g), (2, ov_i c)]) (st2 := [ov_r 51]) (pc2 := 14) b_128_13_1 rfl rfl ?_
      refine ov_getf (v := ov_r (h 51 0)) d_128_14 fl_Memo_9 (zb_51 I) (zs_51 I) rfl ?_
      refine ov_blk (ls2 := [(0, ov_r 51), (1, ov_i g), (2, ov_i c)]) (st2 := [ov_i c, ov_r (h 51 0)]) (pc2 := 18) b_128_17_1 rfl rfl ?_
      refine ov_lald d_128_18 (mm_51 I).1 (mm_51 I).2.1 (by omega) ?_
      refine ov_blk (ls2 := [(0, ov_r 51), (1, ov_i g), (2, ov_i c)]) (st2 := [ov_r 51, ov_l (ov_lshr (h (h 51 0) c) 32)]) (pc2 := 23) b_128_19_3 rfl rfl ?_
      refine ov_getf (v := ov_r 53) d_128_23 fl_Memo_15 (zb_51 I) (zs_51 I) (congrArg ov_r (rg_51_1 I)) ?_
      refine ov_blk (ls2 := [(0, ov_r 51), (1, ov_i g), (2, ov_i c)]) (st2 := [ov_i g, ov_r 53, ov_l (ov_lshr (h (h 51 0) c) 32)]) (pc2 := 27) b_128_26_1 rfl rfl ?_
      refine ov_iald d_128_27 (zb_53 I) (zs_53 I) (by omega) ?_
      have g4 := ra_53 I g
      refine ov_blk (ls2 := [(0, ov_r 51), (1, ov_i g), (2, ov_i c)]) (st2 := [ov_i (ov_lcmp (ov_lshr (h (h 51 0) c) 32) (ov_w (h 53 g)))]) (pc2 := 30) b_128_28_2 rfl rfl ?_
      have g5 := ov_wg (h 53 g)
      have g6 := ov_wq (h 53 g)
      have g7 := ov_lcg (ov_lshr (h (h 51 0) c) 32) (ov_w (h 53 g))
      refine ov_ifne (tgt := 37) d_128_30 (by decide) (by omega) (fun c8 => ?_) (fun c8 => ?_)
      · skip
        refine ov_blk (ls2 := [(0, ov_r 51), (1, ov_i g), (2, ov_i c)]) (st2 := [ov_i 0]) (pc2 := 38) b_128_37_1 rfl rfl ?_
        exact ov_retz (st := []) d_128_38 rfl (by omega) ⟨_, rfl, rfl, rfl, (by show (0 = 0 ∨ 0 = 1) ∧ (0 = 1 → 0 ≤ c ∧ c < (((z.2.2 (h 51 0)).2 : Nat) : Int)); omega)⟩
      · skip
        refine ov_blk (ls2 := [(0, ov_r 51), (1, ov_i g), (2, ov_i c)]) (st2 := [ov_i 1]) (pc2 := 34) b_128_33_1 rfl rfl ?_
        refine ov_goto (tgt := 38) d_128_34 (by decide) ?_
        exact ov_retz (st := []) d_128_38 rfl (by omega) ⟨_, rfl, rfl, rfl, (by show (1 = 0 ∨ 1 = 1) ∧ (1 = 1 → 0 ≤ c ∧ c < (((z.2.2 (h 51 0)).2 : Nat) : Int)); omega)⟩
abbrev P_Memo_number_51 (F : ov_H) (z : ov_Z) (h : ov_H) (c : Int) : Option ov_V → ov_Z → ov_H → Prop := fun r0 z' h' => ∃ r : Int, r0 = some (ov_i r) ∧ z = z' ∧ h = h' ∧ (-2147483648 ≤ r ∧ r ≤ 2147483647)
set_option maxHeartbeats 4000000 in
theorem c_Memo_number_51 {u : ov_U} {F : ov_H} {z : ov_Z} {h : ov_H} (d : Nat) (hd : 0 ≤ d) (U : ov_cap u) (I : ov_I F z h) (c : Int) (g_c : ov_g c) (p0 : 0 ≤ c ∧ c < (((z.2.2 (h 51 0)).2 : Nat) : Int)) : ov_T u d ov_m129 [ov_r 51, ov_i c] z h (P_Memo_number_51 F z h c) := by
  refine ov_en rfl (Nat.le_of_ble_eq_true rfl) ?_
  show ov_R u d ov_m129 0 [(0, ov_r 51), (1, ov_i c)] [] z h (P_Memo_number_51 F z h c)
  refine ov_blk (ls2 := [(0, ov_r 51), (1, ov_i c)]) (st2 := [ov_r 51]) (pc2 := 1) b_129_0_1 rfl rfl ?_
  refine ov_getf (v := ov_r (h 51 0)) d_129_1 fl_Memo_9 (zb_51 I) (zs_51 I) rfl ?_
  refine ov_blk (ls2 := [(0, ov_r 51), (1, ov_i c)]) (st2 := [ov_i c, ov_r (h 51 0)]) (pc2 := 5) b_129_4_1 rfl rfl ?_
  refine ov_lald d_129_5 (mm_51 I).1 (mm_51 I).2.1 (by omega) ?_
  refine ov_blk (ls2 := [(0, ov_r 51), (1, ov_i c)]) (st2 := [ov_i (h (h 51 0) c)]) (pc2 := 7) b_129_6_1 rfl rfl ?_
  refine ov_havw (fun w1 gw1 qw1 => ?_)
  exact ov_reti (st := []) d_129_7 rfl ⟨_, rfl, rfl, rfl, (by show -2147483648 ≤ w1 ∧ w1 ≤ 2147483647; omega)⟩
abbrev P_Memo_put_51 (F : ov_H) (z : ov_Z) (h : ov_H) (g : Int) (c : Int) (n : Int) : Option ov_V → ov_Z → ov_H → Prop := fun r0 z' h' => r0 = none ∧ ov_I F z' h' ∧ ((h' 36 7) = (h 36 7) ∧ (h' 1 1) = (h 1 1) ∧ (h' 90 2) = (h 90 2) ∧ (h' 0 10) = (h 0 10) ∧ (h' 0 11) = (h 0 11) ∧ (h' 0 12) = (h 0 12) ∧ (h' 0 13) = (h 0 13) ∧ (h' 3 1) = (h 3 1) ∧ (h' 36 8) = (h 36 8) ∧ (h' 46 3) = (h 46 3) ∧ (h' 46 4) = (h 46 4) ∧ (h' 49 4) = (h 49 4) ∧ (h' 49 5) = (h 49 5) ∧ (h' 64 0) = (h 64 0) ∧ (h' 76 0) = (h 76 0))
set_option maxHeartbeats 4000000 in
theorem c_Memo_put_51 {u : ov_U} {F : ov_H} {z : ov_Z} {h : ov_H} (d : Nat) (hd : 0 ≤ d) (U : ov_cap u) (I : ov_I F z h) (g : Int) (c : Int) (n : Int) (g_g : ov_g g) (g_c : ov_g c) (g_n : ov_g n) (p0 : 0 ≤ g ∧ g ≤ 53) : ov_T u d ov_m141 [ov_r 51, ov_i g, ov_i c, ov_i n] z h (P_Memo_put_51 F z h g c n) := by
  refine ov_en rfl (Nat.le_of_ble_eq_true rfl) ?_
  show ov_R u d ov_m141 0 [(0, ov_r 51), (1, ov_i g), (2, ov_i c), (3, ov_i n)] [] z h (P_Memo_put_51 F z h g c n)
  refine ov_blk (ls2 := [(0, ov_r 51), (1, ov_i g), (2, ov_i c), (3, ov_i n)]) (st2 := [ov_i c]) (pc2 := 1) b_141_0_1 rfl rfl ?_
  refine ov_iflt (tgt := 36) d_141_1 (by decide) (by omega) (fun c1 => ?_) (fun c1 => ?_)
  · skip
    exact ov_retv (st := []) d_141_36 rfl ⟨rfl, I, (by show (h 36 7) = (h 36 7) ∧ (h 1 1) = (h 1 1) ∧ (h 90 2) = (h 90 2) ∧ (h 0 10) = (h 0 10) ∧ (h 0 11) = (h 0 11) ∧ (h 0 12) = (h 0 12) ∧ (h 0 13) = (h 0 13) ∧ (h 3 1) = (h 3 1) ∧ (h 36 8) = (h 36 8) ∧ (h 46 3) = (h 46 3) ∧ (h 46 4) = (h 46 4) ∧ (h 49 4) = (h 49 4) ∧ (h 49 5) = (h 49 5) ∧ (h 64 0) = (h 64 0) ∧ (h 76 0) = (h 76 0); omega)⟩
  · skip
    refine ov_blk (ls2 := [(0, ov_r 51), (1, ov_i g), (2, ov_i c), (3, ov_i n)]) (st2 := [ov_r 51, ov_i c]) (pc2 := 6) b_141_4_2 rfl rfl ?_
    refine ov_getf (v := ov_r (h 51 0)) d_141_6 fl_Memo_9 (zb_51 I) (zs_51 I) rfl ?_
    refine ov_alen d_141_9 (mm_51 I).1 (mm_51 I).2.1 (by decide) ?_
    show ov_R u d ov_m141 10 [(0, ov_r 51), (1, ov_i g), (2, ov_i c), (3, ov_i n)] [ov_i (((z.2.2 (h 51 0)).2 : Nat) : Int), ov_i c] z h (P_Memo_put_51 F z h g c n)
    have g2 := (mm_51 I).2.2.1
    refine ov_icge (tgt := 36) d_141_10 (by decide) (by omega) (by omega) (fun c3 => ?_) (fun c3 => ?_)
    · skip
      exact ov_retv (st := []) d_141_36 rfl ⟨rfl, I, (by show (h 36 7) = (h 36 7) ∧ (h 1 1) = (h 1 1) ∧ (h 90 2) = (h 90 2) ∧ (h 0 10) = (h 0 10) ∧ (h 0 11) = (h 0 11) ∧ (h 0 12) = (h 0 12) ∧ (h 0 13) = (h 0 13) ∧ (h 3 1) = (h 3 1) ∧ (h 36 8) = (h 36 8) ∧ (h 46 3) = (h 46 3) ∧ (h 46 4) = (h 46 4) ∧ (h 49 4) = (h 49 4) ∧ (h 49 5) = (h 49 5) ∧ (h 64 0) = (h 64 0) ∧ (h 76 0) = (h 76 0); omega)⟩
    · skip
      refine ov_blk (ls2 := [(0, ov_r 51), (1, ov_i g), (2, ov_i c), (3, ov_i n)]) (st2 := [ov_r 51]) (pc2 := 14) b_141_13_1 rfl rfl ?_
      refine ov_getf (v := ov_r (h 51 0)) d_141_14 fl_Memo_9 (zb_51 I) (zs_51 I) rfl ?_
      refine ov_blk (ls2 := [(0, ov_r 51), (1, ov_i g), (2, ov_i c), (3, ov_i n)]) (st2 := [ov_r 51, ov_i c, ov_r (h 51 0)]) (pc2 := 19) b_141_17_2 rfl rfl ?_
      refine ov_getf (v := ov_r 53) d_141_19 fl_Memo_15 (zb_51 I) (zs_51 I) (congrArg ov_r (rg_51_1 I)) ?_
      refine ov_blk (ls2 := [(0, ov_r 51), (1, ov_i g), (2, ov_i c), (3, ov_i n)]) (st2 := [ov_i g, ov_r 53, ov_i c, ov_r (h 51 0)]) (pc2 := 23) b_141_22_1 rfl rfl ?_
      refine ov_iald d_141_23 (zb_53 I) (zs_53 I) (by omega) ?_
      have g4 := ra_53 I g
      refine ov_blk (ls2 := [(0, ov_r 51), (1, ov_i g), (2, ov_i c), (3, ov_i n)]) (st2 := [ov_l (ov_w n), ov_l (ov_lshl (ov_w (h 53 g)) 32), ov_i c, ov_r (h 51 0)]) (pc2 := 30) b_141_24_5 rfl rfl ?_
      have g5 := ov_wg (h 53 g)
      have g6 := ov_wq (h 53 g)
      have g7 := ov_wg n
      have g8 := ov_wq n
      refine ov_ldc2 (n := 4294967295) d_141_30 kc_Memo_35 ?_
      refine ov_blk (ls2 := [(0, ov_r 51), (1, ov_i g), (2, ov_i c), (3, ov_i n)]) (st2 := [ov_l (ov_lor (ov_lshl (ov_w (h 53 g)) 32) (ov_land (ov_w n) 4294967295)), ov_i c, ov_r (h 51 0)]) (pc2 := 35) b_141_33_2 rfl rfl ?_
      refine ov_last d_141_35 (mm_51 I).1 (mm_51 I).2.1 (by omega) ?_
      have I9 := ov_I_um (b := (h 51 0)) (k := c) (x := (ov_lor (ov_lshl (ov_w (h 53 g)) 32) (ov_land (ov_w n) 4294967295))) I (by have := (mm_51 I).2.2.2; omega)
      have e11 : (ov_up h (h 51 0) c (ov_lor (ov_lshl (ov_w (h 53 g)) 32) (ov_land (ov_w n) 4294967295))) 36 7 = h 36 7 := ov_um_lt (mm_51 I).2.2.2 (by decide) (by decide) _
      have e12 : (ov_up h (h 51 0) c (ov_lor (ov_lshl (ov_w (h 53 g)) 32) (ov_land (ov_w n) 4294967295))) 1 1 = h 1 1 := ov_um_lt (mm_51 I).2.2.2 (by decide) (by decide) _
      have e13 : (ov_up h (h 51 0) c (ov_lor (ov_lshl (ov_w (h 53 g)) 32) (ov_land (ov_w n) 4294967295))) 90 2 = h 90 2 := ov_um_lt (mm_51 I).2.2.2 (by decide) (by decide) _
      have e14 : (ov_up h (h 51 0) c (ov_lor (ov_lshl (ov_w (h 53 g)) 32) (ov_land (ov_w n) 4294967295))) 0 10 = h 0 10 := ov_um_lt (mm_51 I).2.2.2 (by decide) (by decide) _
      have e15 : (ov_up h (h 51 0) c (ov_lor (ov_lshl (ov_w (h 53 g)) 32) (ov_land (ov_w n) 4294967295))) 0 11 = h 0 11 := ov_um_lt (mm_51 I).2.2.2 (by decide) (by decide) _
      have e16 : (ov_up h (h 51 0) c (ov_lor (ov_lshl (ov_w (h 53 g)) 32) (ov_land (ov_w n) 4294967295))) 0 12 = h 0 12 := ov_um_lt (mm_51 I).2.2.2 (by decide) (by decide) _
      have e17 : (ov_up h (h 51 0) c (ov_lor (ov_lshl (ov_w (h 53 g)) 32) (ov_land (ov_w n) 4294967295))) 0 13 = h 0 13 := ov_um_lt (mm_51 I).2.2.2 (by decide) (by decide) _
      have e18 : (ov_up h (h 51 0) c (ov_lor (ov_lshl (ov_w (h 53 g)) 32) (ov_land (ov_w n) 4294967295))) 3 1 = h 3 1 := ov_um_lt (mm_51 I).2.2.2 (by decide) (by decide) _
      have e19 : (ov_up h (h 51 0) c (ov_lor (ov_lshl (ov_w (h 53 g)) 32) (ov_land (ov_w n) 4294967295))) 36 8 = h 36 8 := ov_um_lt (mm_51 I).2.2.2 (by decide) (by decide) _
      have e20 : (ov_up h (h 51 0) c (ov_lor (ov_lshl (ov_w (h 53 g)) 32) (ov_land (ov_w n) 4294967295))) 46 3 = h 46 3 := ov_um_lt (mm_51 I).2.2.2 (by decide) (by decide) _
      have e21 : (ov_up h (h 51 0) c (ov_lor (ov_lshl (ov_w (h 53 g)) 32) (ov_land (ov_w n) 4294967295))) 46 4 = h 46 4 := ov_um_lt (mm_51 I).2.2.2 (by decide) (by decide) _
      have e22 : (ov_up h (h 51 0) c (ov_lor (ov_lshl (ov_w (h 53 g)) 32) (ov_land (ov_w n) 4294967295))) 49 4 = h 49 4 := ov_um_lt (mm_51 I).2.2.2 (by decide) (by decide) _
      have e23 : (ov_up h (h 51 0) c (ov_lor (ov_lshl (ov_w (h 53 g)) 32) (ov_land (ov_w n) 4294967295))) 49 5 = h 49 5 := ov_um_lt (mm_51 I).2.2.2 (by decide) (by decide) _
      have e24 : (ov_up h (h 51 0) c (ov_lor (ov_lshl (ov_w (h 53 g)) 32) (ov_land (ov_w n) 4294967295))) 64 0 = h 64 0 := ov_um_lt (mm_51 I).2.2.2 (by decide) (by decide) _
      have e25 : (ov_up h (h 51 0) c (ov_lor (ov_lshl (ov_w (h 53 g)) 32) (ov_land (ov_w n) 4294967295))) 76 0 = h 76 0 := ov_um_lt (mm_51 I).2.2.2 (by decide) (by decide) _
      generalize (ov_up h (h 51 0) c (ov_lor (ov_lshl (ov_w (h 53 g)) 32) (ov_land (ov_w n) 4294967295))) = h10 at I9 e11 e12 e13 e14 e15 e16 e17 e18 e19 e20 e21 e22 e23 e24 e25 ⊢
      exact ov_retv (st := []) d_141_36 rfl ⟨rfl, I9, (by show (h10 36 7) = (h 36 7) ∧ (h10 1 1) = (h 1 1) ∧ (h10 90 2) = (h 90 2) ∧ (h10 0 10) = (h 0 10) ∧ (h10 0 11) = (h 0 11) ∧ (h10 0 12) = (h 0 12) ∧ (h10 0 13) = (h 0 13) ∧ (h10 3 1) = (h 3 1) ∧ (h10 36 8) = (h 36 8) ∧ (h10 46 3) = (h 46 3) ∧ (h10 46 4) = (h 46 4) ∧ (h10 49 4) = (h 49 4) ∧ (h10 49 5) = (h 49 5) ∧ (h10 64 0) = (h 64 0) ∧ (h10 76 0) = (h 76 0); omega)⟩
abbrev P_Memo_clearBefore_51 (F : ov_H) (z : ov_Z) (h : ov_H) (c : Int) : Option ov_V → ov_Z → ov_H → Prop := fun r0 z' h' => r0 = none ∧ ov_I F z' h' ∧ ((h' 36 7) = (h 36 7) ∧ (h' 1 1) = (h 1 1) ∧ (h' 90 2) = (h 90 2) ∧ (h' 0 10) = (h 0 10) ∧ (h' 0 11) = (h 0 11) ∧ (h' 0 12) = (h 0 12) ∧ (h' 0 13) = (h 0 13) ∧ (h' 3 1) = (h 3 1) ∧ (h' 36 8) = (h 36 8) ∧ (h' 46 3) = (h 46 3) ∧ (h' 46 4) = (h 46 4) ∧ (h' 49 4) = (h 49 4) ∧ (h' 49 5) = (h 49 5) ∧ (h' 64 0) = (h 64 0) ∧ (h' 76 0) = (h 76 0))
set_option maxHeartbeats 4000000 in
theorem c_Memo_clearBefore_51 {u : ov_U} {F : ov_H} {z : ov_Z} {h : ov_H} (d : Nat) (hd : 0 ≤ d) (U : ov_cap u) (I : ov_I F z h) (c : Int) (g_c : ov_g c) (p0 : 0 ≤ c ∧ c ≤ 53) : ov_T u d ov_m148 [ov_r 51, ov_i c] z h (P_Memo_clearBefore_51 F z h c) := by
  refine ov_en rfl (Nat.le_of_ble_eq_true rfl) ?_
  show ov_R u d ov_m148 0 [(0, ov_r 51), (1, ov_i c)] [] z h (P_Memo_clearBefore_51 F z h c)
  refine ov_blk (ls2 := [(0, ov_r 51), (1, ov_i c)]) (st2 := [ov_r 51, ov_r 51]) (pc2 := 2) b_148_0_2 rfl rfl ?_
  refine ov_getf (v := ov_i (h 51 2)) d_148_2 fl_Memo_25 (zb_51 I) (zs_51 I) rfl ?_
  have g1 := rg_51_2 I
  refine ov_blk (ls2 := [(0, ov_r 51), (1, ov_i c)]) (st2 := [ov_i ((h 51 2) + 1), ov_r 51]) (pc2 := 7) b_148_5_2 rfl rfl ?_
  refine ov_havw (fun w2 gw2 qw2 => ?_)
  refine ov_putf (x := w2) d_148_7 fl_Memo_25 (zb_51 I) (zs_51 I) rfl nk_0 rfl ?_
  have I3 := up_51_2 (x := w2) I (by omega)
  refine ov_blk (ls2 := [(0, ov_r 51), (1, ov_i c), (2, ov_i 0)]) (st2 := []) (pc2 := 12) b_148_10_2 rfl rfl ?_
  have L7 : ∀ (n4 : Nat) (x2 : Int) (z8 : ov_Z) (h9 : ov_H) (I10 : ov_I F z8 h9) (q6 : 0 ≤ x2 ∧ x2 ≤ 54 ∧ (h9 36 7) = (h 36 7) ∧ (h9 1 1) = (h 1 1) ∧ (h9 90 2) = (h 90 2) ∧ (h9 0 10) = (h 0 10) ∧ (h9 0 11) = (h 0 11) ∧ (h9 0 12) = (h 0 12) ∧ (h9 0 13) = (h 0 13) ∧ (h9 3 1) = (h 3 1) ∧ (h9 36 8) = (h 36 8) ∧ (h9 46 3) = (h 46 3) ∧ (h9 46 4) = (h 46 4) ∧ (h9 49 4) = (h 49 4) ∧ (h9 49 5) = (h 49 5) ∧ (h9 64 0) = (h 64 0) ∧ (h9 76 0) = (h 76 0)), 54 - x2 < (n4 : Int) → ov_R u d ov_m148 12 [(0, ov_r 51), (1, ov_i c), (2, ov_i x2)] [] z8 h9 (P_Memo_clearBefore_51 F z h c) := by
    intro n4
    induction n4 with
    | zero =>
      intro x2 z8 h9 I10 q6 hn11
      exact absurd hn11 (by omega)
    | succ n4 ih5 =>
      intro x2 z8 h9 I10 q6 hn11
      refine ov_blk (ls2 := [(0, ov_r 51), (1, ov_i c), (2, ov_i x2)]) (st2 := [ov_i c, ov_i x2]) (pc2 := 14) b_148_12_2 rfl rfl ?_
      refine ov_icgt (tgt := 44) d_148_14 (by decide) (by omega) (by omega) (fun c12 => ?_) (fun c12 => ?_)
      · skip
        exact ov_retv (st := []) d_148_44 rfl ⟨rfl, I10, (by show (h9 36 7) = (h 36 7) ∧ (h9 1 1) = (h 1 1) ∧ (h9 90 2) = (h 90 2) ∧ (h9 0 10) = (h 0 10) ∧ (h9 0 11) = (h 0 11) ∧ (h9 0 12) = (h 0 12) ∧ (h9 0 13) = (h 0 13) ∧ (h9 3 1) = (h 3 1) ∧ (h9 36 8) = (h 36 8) ∧ (h9 46 3) = (h 46 3) ∧ (h9 46 4) = (h 46 4) ∧ (h9 49 4) = (h 49 4) ∧ (h9 49 5) = (h 49 5) ∧ (h9 64 0) = (h 64 0) ∧ (h9 76 0) = (h 76 0); omega)⟩
      · skip
        refine ov_blk (ls2 := [(0, ov_r 51), (1, ov_i c), (2, ov_i x2)]) (st2 := [ov_i 6, ov_i x2]) (pc2 := 20) b_148_17_2 rfl rfl ?_
        refine ov_irem d_148_20 (by omega) (by omega) (by omega) ?_
        have g13 := ov_tm (a := x2) (b := 6) (by omega)
        have g14 := ov_tmg (a := x2) (b := 6) (by omega) (by omega)
        refine ov_blk (ls2 := [(0, ov_r 51), (1, ov_i c), (2, ov_i x2)]) (st2 := [ov_i 6, ov_i c, ov_i (Int.tmod x2 6)]) (pc2 := 24) b_148_21_2 rfl rfl ?_
        refine ov_irem d_148_24 (by omega) (by omega) (by omega) ?_
        have g15 := ov_tm (a := c) (b := 6) (by omega)
        have g16 := ov_tmg (a := c) (b := 6) (by omega) (by omega)
        refine ov_icgt (tgt := 38) d_148_25 (by decide) (by omega) (by omega) (fun c17 => ?_) (fun c17 => ?_)
        · skip
          refine ov_blk (ls2 := [(0, ov_r 51), (1, ov_i c), (2, ov_i (x2 + 1))]) (st2 := []) (pc2 := 41) b_148_38_1 rfl rfl ?_
          refine ov_goto (tgt := 12) d_148_41 (by decide) ?_
          exact ih5 (x2 + 1) _ _ I10 (by show 0 ≤ (x2 + 1) ∧ (x2 + 1) ≤ 54 ∧ (h9 36 7) = (h 36 7) ∧ (h9 1 1) = (h 1 1) ∧ (h9 90 2) = (h 90 2) ∧ (h9 0 10) = (h 0 10) ∧ (h9 0 11) = (h 0 11) ∧ (h9 0 12) = (h 0 12) ∧ (h9 0 13) = (h 0 13) ∧ (h9 3 1) = (h 3 1) ∧ (h9 36 8) = (h 36 8) ∧ (h9 46 3) = (h 46 3) ∧ (h9 46 4) = (h 46 4) ∧ (h9 49 4) = (h 49 4) ∧ (h9 49 5) = (h 49 5) ∧ (h9 64 0) = (h 64 0) ∧ (h9 76 0) = (h 76 0); omega) (by omega)
        · skip
          refine ov_blk (ls2 := [(0, ov_r 51), (1, ov_i c), (2, ov_i x2)]) (st2 := [ov_r 51]) (pc2 := 29) b_148_28_1 rfl rfl ?_
          refine ov_getf (v := ov_r 53) d_148_29 fl_Memo_15 (zb_51 I10) (zs_51 I10) (congrArg ov_r (rg_51_1 I10)) ?_
          refine ov_blk (ls2 := [(0, ov_r 51), (1, ov_i c), (2, ov_i x2)]) (st2 := [ov_r 51, ov_i x2, ov_r 53]) (pc2 := 34) b_148_32_2 rfl rfl ?_
          refine ov_getf (v := ov_i (h9 51 2)) d_148_34 fl_Memo_25 (zb_51 I10) (zs_51 I10) rfl ?_
          have g18 := rg_51_2 I10
          refine ov_iast d_148_37 (zb_53 I10) (zs_53 I10) (by omega) ?_
          have I19 := ua_53 (k := x2) (x := (h9 51 2)) I10 (by omega)
          refine ov_blk (ls2 := [(0, ov_r 51), (1, ov_i c), (2, ov_i (x2 + 1))]) (st2 := []) (pc2 := 41) b_148_38_1 rfl rfl ?_
          refine ov_goto (tgt := 12) d_148_41 (by decide) ?_
          exact ih5 (x2 + 1) _ _ I19 (by show 0 ≤ (x2 + 1) ∧ (x2 + 1) ≤ 54 ∧ (h9 36 7) = (h 36 7) ∧ (h9 1 1) = (h 1 1) ∧ (h9 90 2) = (h 90 2) ∧ (h9 0 10) = (h 0 10) ∧ (h9 0 11) = (h 0 11) ∧ (h9 0 12) = (h 0 12) ∧ (h9 0 13) = (h 0 13) ∧ (h9 3 1) = (h 3 1) ∧ (h9 36 8) = (h 36 8) ∧ (h9 46 3) = (h 46 3) ∧ (h9 46 4) = (h 46 4) ∧ (h9 49 4) = (h 49 4) ∧ (h9 49 5) = (h 49 5) ∧ (h9 64 0) = (h 64 0) ∧ (h9 76 0) = (h 76 0); omega) (by omega)
  exact L7 55 0 _ _ I3 (by show 0 ≤ 0 ∧ 0 ≤ 54 ∧ (h 36 7) = (h 36 7) ∧ (h 1 1) = (h 1 1) ∧ (h 90 2) = (h 90 2) ∧ (h 0 10) = (h 0 10) ∧ (h 0 11) = (h 0 11) ∧ (h 0 12) = (h 0 12) ∧ (h 0 13) = (h 0 13) ∧ (h 3 1) = (h 3 1) ∧ (h 36 8) = (h 36 8) ∧ (h 46 3) = (h 46 3) ∧ (h 46 4) = (h 46 4) ∧ (h 49 4) = (h 49 4) ∧ (h 49 5) = (h 49 5) ∧ (h 64 0) = (h 64 0) ∧ (h 76 0) = (h 76 0); omega) (by omega)
abbrev P_Memo_clear_51 (F : ov_H) (z : ov_Z) (h : ov_H) (n : Int) : Option ov_V → ov_Z → ov_H → Prop := fun r0 z' h' => r0 = none ∧ ov_I F z' h' ∧ ((h' 36 7) = (h 36 7) ∧ (h' 1 1) = (h 1 1) ∧ (h' 90 2) = (h 90 2) ∧ (h' 0 10) = (h 0 10) ∧ (h' 0 11) = (h 0 11) ∧ (h' 0 12) = (h 0 12) ∧ (h' 0 13) = (h 0 13) ∧ (h' 3 1) = (h 3 1) ∧ (h' 36 8) = (h 36 8) ∧ (h' 46 3) = (h 46 3) ∧ (h' 46 4) = (h 46 4) ∧ (h' 49 4) = (h 49 4) ∧ (h' 49 5) = (h 49 5) ∧ (h' 64 0) = (h 64 0) ∧ (h' 76 0) = (h 76 0))
set_option maxHeartbeats 4000000 in
theorem c_Memo_clear_51 {u : ov_U} {F : ov_H} {z : ov_Z} {h : ov_H} (d : Nat) (hd : 1 ≤ d) (U : ov_cap u) (I : ov_I F z h) (n : Int) (g_n : ov_g n) (p0 : n ≤ 156000) : ov_T u d ov_m124 [ov_r 51, ov_i n] z h (P_Memo_clear_51 F z h n) := by
  refine ov_en rfl (Nat.le_of_ble_eq_true rfl) ?_
  show ov_R u d ov_m124 0 [(0, ov_r 51), (1, ov_i n)] [] z h (P_Memo_clear_51 F z h n)
  refine ov_blk (ls2 := [(0, ov_r 51), (1, ov_i n)]) (st2 := [ov_r 51, ov_i n]) (pc2 := 2) b_124_0_2 rfl rfl ?_
  refine ov_getf (v := ov_r (h 51 0)) d_124_2 fl_Memo_9 (zb_51 I) (zs_51 I) rfl ?_
  refine ov_alen d_124_5 (mm_51 I).1 (mm_51 I).2.1 (by decide) ?_
  show ov_R u d ov_m124 6 [(0, ov_r 51), (1, ov_i n)] [ov_i (((z.2.2 (h 51 0)).2 : Nat) : Int), ov_i n] z h (P_Memo_clear_51 F z h n)
  have g1 := (mm_51 I).2.2.1
  refine ov_icle (tgt := 26) d_124_6 (by decide) (by omega) (by omega) (fun c2 => ?_) (fun c2 => ?_)
  · skip
    refine ov_blk (ls2 := [(0, ov_r 51), (1, ov_i n)]) (st2 := [ov_r 51, ov_r 51]) (pc2 := 28) b_124_26_2 rfl rfl ?_
    refine ov_getf (v := ov_i (h 51 2)) d_124_28 fl_Memo_25 (zb_51 I) (zs_51 I) rfl ?_
    have g3 := rg_51_2 I
    refine ov_blk (ls2 := [(0, ov_r 51), (1, ov_i n)]) (st2 := [ov_i ((h 51 2) + 1), ov_r 51]) (pc2 := 33) b_124_31_2 rfl rfl ?_
    refine ov_havw (fun w4 gw4 qw4 => ?_)
    refine ov_putf (x := w4) d_124_33 fl_Memo_25 (zb_51 I) (zs_51 I) rfl nk_0 rfl ?_
    have I5 := up_51_2 (x := w4) I (by omega)
    refine ov_blk (ls2 := [(0, ov_r 51), (1, ov_i n)]) (st2 := [ov_r 51]) (pc2 := 37) b_124_36_1 rfl rfl ?_
    refine ov_getf (v := ov_r 53) d_124_37 fl_Memo_15 (zb_51 I5) (zs_51 I5) (congrArg ov_r (rg_51_1 I5)) ?_
    refine ov_blk (ls2 := [(0, ov_r 51), (1, ov_i n)]) (st2 := [ov_r 51, ov_r 53]) (pc2 := 41) b_124_40_1 rfl rfl ?_
    refine ov_getf (v := ov_i w4) d_124_41 fl_Memo_25 (zb_51 I5) (zs_51 I5) rfl ?_
    refine ov_cS (as := [ov_r 53, ov_i w4]) (st := []) (d2 := d - 1) d_124_44 lk_Memo_29 rfl (Nat.le_of_ble_eq_true rfl) (by omega) (c_Arrays_fill_AIIV_53 (d - 1) (by omega) U I5 w4 (by omega) (by omega)) ?_
    rintro _ z7 h8 ⟨rfl, I9, f6⟩
    show ov_R u d ov_m124 47 [(0, ov_r 51), (1, ov_i n)] [] z7 h8 (P_Memo_clear_51 F z h n)
    have f10 : (h8 36 7) = (h 36 7) ∧ (h8 1 1) = (h 1 1) ∧ (h8 90 2) = (h 90 2) ∧ (h8 0 10) = (h 0 10) ∧ (h8 0 11) = (h 0 11) ∧ (h8 0 12) = (h 0 12) ∧ (h8 0 13) = (h 0 13) ∧ (h8 3 1) = (h 3 1) ∧ (h8 36 8) = (h 36 8) ∧ (h8 46 3) = (h 46 3) ∧ (h8 46 4) = (h 46 4) ∧ (h8 49 4) = (h 49 4) ∧ (h8 49 5) = (h 49 5) ∧ (h8 64 0) = (h 64 0) ∧ (h8 76 0) = (h 76 0) := f6
    clear f6
    exact ov_retv (st := []) d_124_47 rfl ⟨rfl, I9, (by show (h8 36 7) = (h 36 7) ∧ (h8 1 1) = (h 1 1) ∧ (h8 90 2) = (h 90 2) ∧ (h8 0 10) = (h 0 10) ∧ (h8 0 11) = (h 0 11) ∧ (h8 0 12) = (h 0 12) ∧ (h8 0 13) = (h 0 13) ∧ (h8 3 1) = (h 3 1) ∧ (h8 36 8) = (h 36 8) ∧ (h8 46 3) = (h 46 3) ∧ (h8 46 4) = (h 46 4) ∧ (h8 49 4) = (h 49 4) ∧ (h8 49 5) = (h 49 5) ∧ (h8 64 0) = (h 64 0) ∧ (h8 76 0) = (h 76 0); omega)⟩
  · skip
    refine ov_blk (ls2 := [(0, ov_r 51), (1, ov_i n)]) (st2 := [ov_r 51, ov_i 2, ov_i n, ov_r 51]) (pc2 := 13) b_124_9_4 rfl rfl ?_
    refine ov_getf (v := ov_r (h 51 0)) d_124_13 fl_Memo_9 (zb_51 I) (zs_51 I) rfl ?_
    refine ov_alen d_124_16 (mm_51 I).1 (mm_51 I).2.1 (by decide) ?_
    show ov_R u d ov_m124 17 [(0, ov_r 51), (1, ov_i n)] [ov_i (((z.2.2 (h 51 0)).2 : Nat) : Int), ov_i 2, ov_i n, ov_r 51] z h (P_Memo_clear_51 F z h n)
    have g11 := (mm_51 I).2.2.1
    refine ov_blk (ls2 := [(0, ov_r 51), (1, ov_i n)]) (st2 := [ov_i (2 * (((z.2.2 (h 51 0)).2 : Nat) : Int)), ov_i n, ov_r 51]) (pc2 := 18) b_124_17_1 rfl rfl ?_
    refine ov_cS (as := [ov_i n, ov_i (2 * (((z.2.2 (h 51 0)).2 : Nat) : Int))]) (st := [ov_r 51]) (d2 := d - 1) d_124_18 lk_Memo_19 rfl (Nat.le_of_ble_eq_true rfl) (by omega) (c_Math_max (d - 1) (by omega) U I n (2 * (((z.2.2 (h 51 0)).2 : Nat) : Int)) (by omega) (by omega)) ?_
    rintro _ _ _ ⟨v13, rfl, rfl, rfl, f12⟩
    show ov_R u d ov_m124 21 [(0, ov_r 51), (1, ov_i n)] [ov_i v13, ov_r 51] z h (P_Memo_clear_51 F z h n)
    have f14 : n ≤ v13 ∧ (2 * (((z.2.2 (h 51 0)).2 : Nat) : Int)) ≤ v13 ∧ (v13 = n ∨ v13 = (2 * (((z.2.2 (h 51 0)).2 : Nat) : Int))) := f12
    clear f12
    have rm := ov_mroom (n := v13) U I (by omega)
    refine ov_newl d_124_21 aw_long (by omega) rm.1 rm.2 ?_
    have zl := I.1.1.1
    refine ov_putf (x := (z.1 : Int)) d_124_23 fl_Memo_9 ⟨by decide, by show (51 : Int) < ((z.1 + 1 : Nat) : Int); omega⟩ (show (if (51 : Int) = (z.1 : Int) then _ else z.2.2 51) = _ by rw [if_neg (by omega)]; exact zs_51 I) rfl nk_2 rfl ?_
    have I15 := mk_51 (n := v13) I (by omega) (by omega) (by omega)
    have e18 : (ov_up (ov_nw h (z.1 : Int) (fun _ => 0)) 51 0 (z.1 : Int)) 36 7 = h 36 7 := by rw [ov_up_ne (by decide), ov_nw_lt zl (by decide)]
    have e19 : (ov_up (ov_nw h (z.1 : Int) (fun _ => 0)) 51 0 (z.1 : Int)) 1 1 = h 1 1 := by rw [ov_up_ne (by decide), ov_nw_lt zl (by decide)]
    have e20 : (ov_up (ov_nw h (z.1 : Int) (fun _ => 0)) 51 0 (z.1 : Int)) 90 2 = h 90 2 := by rw [ov_up_ne (by decide), ov_nw_lt zl (by decide)]
    have e21 : (ov_up (ov_nw h (z.1 : Int) (fun _ => 0)) 51 0 (z.1 : Int)) 0 10 = h 0 10 := by rw [ov_up_ne (by decide), ov_nw_lt zl (by decide)]
    have e22 : (ov_up (ov_nw h (z.1 : Int) (fun _ => 0)) 51 0 (z.1 : Int)) 0 11 = h 0 11 := by rw [ov_up_ne (by decide), ov_nw_lt zl (by decide)]
    have e23 : (ov_up (ov_nw h (z.1 : Int) (fun _ => 0)) 51 0 (z.1 : Int)) 0 12 = h 0 12 := by rw [ov_up_ne (by decide), ov_nw_lt zl (by decide)]
    have e24 : (ov_up (ov_nw h (z.1 : Int) (fun _ => 0)) 51 0 (z.1 : Int)) 0 13 = h 0 13 := by rw [ov_up_ne (by decide), ov_nw_lt zl (by decide)]
    have e25 : (ov_up (ov_nw h (z.1 : Int) (fun _ => 0)) 51 0 (z.1 : Int)) 3 1 = h 3 1 := by rw [ov_up_ne (by decide), ov_nw_lt zl (by decide)]
    have e26 : (ov_up (ov_nw h (z.1 : Int) (fun _ => 0)) 51 0 (z.1 : Int)) 36 8 = h 36 8 := by rw [ov_up_ne (by decide), ov_nw_lt zl (by decide)]
    have e27 : (ov_up (ov_nw h (z.1 : Int) (fun _ => 0)) 51 0 (z.1 : Int)) 46 3 = h 46 3 := by rw [ov_up_ne (by decide), ov_nw_lt zl (by decide)]
    have e28 : (ov_up (ov_nw h (z.1 : Int) (fun _ => 0)) 51 0 (z.1 : Int)) 46 4 = h 46 4 := by rw [ov_up_ne (by decide), ov_nw_lt zl (by decide)]
    have e29 : (ov_up (ov_nw h (z.1 : Int) (fun _ => 0)) 51 0 (z.1 : Int)) 49 4 = h 49 4 := by rw [ov_up_ne (by decide), ov_nw_lt zl (by decide)]
    have e30 : (ov_up (ov_nw h (z.1 : Int) (fun _ => 0)) 51 0 (z.1 : Int)) 49 5 = h 49 5 := by rw [ov_up_ne (by decide), ov_nw_lt zl (by decide)]
    have e31 : (ov_up (ov_nw h (z.1 : Int) (fun _ => 0)) 51 0 (z.1 : Int)) 64 0 = h 64 0 := by rw [ov_up_ne (by decide), ov_nw_lt zl (by decide)]
    have e32 : (ov_up (ov_nw h (z.1 : Int) (fun _ => 0)) 51 0 (z.1 : Int)) 76 0 = h 76 0 := by rw [ov_up_ne (by decide), ov_nw_lt zl (by decide)]
    show ov_R u d ov_m124 26 [(0, ov_r 51), (1, ov_i n)] [] (ov_zn z (1, (v13).toNat)) (ov_up (ov_nw h (z.1 : Int) (fun _ => 0)) 51 0 (z.1 : Int)) (P_Memo_clear_51 F z h n)
    generalize (ov_up (ov_nw h (z.1 : Int) (fun _ => 0)) 51 0 (z.1 : Int)) = h16 at I15 e18 e19 e20 e21 e22 e23 e24 e25 e26 e27 e28 e29 e30 e31 e32 ⊢
    generalize (ov_zn z (1, (v13).toNat)) = z17 at I15 ⊢
    refine ov_blk (ls2 := [(0, ov_r 51), (1, ov_i n)]) (st2 := [ov_r 51, ov_r 51]) (pc2 := 28) b_124_26_2 rfl rfl ?_
    refine ov_getf (v := ov_i (h16 51 2)) d_124_28 fl_Memo_25 (zb_51 I15) (zs_51 I15) rfl ?_
    have g33 := rg_51_2 I15
    refine ov_blk (ls2 := [(0, ov_r 51), (1, ov_i n)]) (st2 := [ov_i ((h16 51 2) + 1), ov_r 51]) (pc2 := 33) b_124_31_2 rfl rfl ?_
    refine ov_havw (fun w34 gw34 qw34 => ?_)
    refine ov_putf (x := w34) d_124_33 fl_Memo_25 (zb_51 I15) (zs_51 I15) rfl nk_0 rfl ?_
    have I35 := up_51_2 (x := w34) I15 (by omega)
    refine ov_blk (ls2 := [(0, ov_r 51), (1, ov_i n)]) (st2 := [ov_r 51]) (pc2 := 37) b_124_36_1 rfl rfl ?_
    refine ov_getf (v := ov_r 53) d_124_37 fl_Memo_15 (zb_51 I35) (zs_51 I35) (congrArg ov_r (rg_51_1 I35)) ?_
    refine ov_blk (ls2 := [(0, ov_r 51), (1, ov_i n)]) (st2 := [ov_r 51, ov_r 53]) (pc2 := 41) b_124_40_1 rfl rfl ?_
    refine ov_getf (v := ov_i w34) d_124_41 fl_Memo_25 (zb_51 I35) (zs_51 I35) rfl ?_
    refine ov_cS (as := [ov_r 53, ov_i w34]) (st := []) (d2 := d - 1) d_124_44 lk_Memo_29 rfl (Nat.le_of_ble_eq_true rfl) (by omega) (c_Arrays_fill_AIIV_53 (d - 1) (by omega) U I35 w34 (by omega) (by omega)) ?_
    rintro _ z37 h38 ⟨rfl, I39, f36⟩
    show ov_R u d ov_m124 47 [(0, ov_r 51), (1, ov_i n)] [] z37 h38 (P_Memo_clear_51 F z h n)
    have f40 : (h38 36 7) = (h16 36 7) ∧ (h38 1 1) = (h16 1 1) ∧ (h38 90 2) = (h16 90 2) ∧ (h38 0 10) = (h16 0 10) ∧ (h38 0 11) = (h16 0 11) ∧ (h38 0 12) = (h16 0 12) ∧ (h38 0 13) = (h16 0 13) ∧ (h38 3 1) = (h16 3 1) ∧ (h38 36 8) = (h16 36 8) ∧ (h38 46 3) = (h16 46 3) ∧ (h38 46 4) = (h16 46 4) ∧ (h38 49 4) = (h16 49 4) ∧ (h38 49 5) = (h16 49 5) ∧ (h38 64 0) = (h16 64 0) ∧ (h38 76 0) = (h16 76 0) := f36
    clear f36
    exact ov_retv (st := []) d_124_47 rfl ⟨rfl, I39, (by show (h38 36 7) = (h 36 7) ∧ (h38 1 1) = (h 1 1) ∧ (h38 90 2) = (h 90 2) ∧ (h38 0 10) = (h 0 10) ∧ (h38 0 11) = (h 0 11) ∧ (h38 0 12) = (h 0 12) ∧ (h38 0 13) = (h 0 13) ∧ (h38 3 1) = (h 3 1) ∧ (h38 36 8) = (h 36 8) ∧ (h38 46 3) = (h 46 3) ∧ (h38 46 4) = (h 46 4) ∧ (h38 49 4) = (h 49 4) ∧ (h38 49 5) = (h 49 5) ∧ (h38 64 0) = (h 64 0) ∧ (h38 76 0) = (h 76 0); omega)⟩

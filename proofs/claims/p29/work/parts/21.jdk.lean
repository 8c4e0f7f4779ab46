theorem kc_Long_314 : Cond.constantLong "java/lang/Long" 314 (Int64.ofInt 6148914691236517205) ∈ lw_tbl := List.mem_of_getElem? (i := 1402) (by decide +kernel)
theorem kc_Long_316 : Cond.constantLong "java/lang/Long" 316 (Int64.ofInt 3689348814741910323) ∈ lw_tbl := List.mem_of_getElem? (i := 1403) (by decide +kernel)
theorem kc_Long_318 : Cond.constantLong "java/lang/Long" 318 (Int64.ofInt 1085102592571150095) ∈ lw_tbl := List.mem_of_getElem? (i := 1404) (by decide +kernel)
theorem b_34_0_2 : ov_ds ov_m34.2.1 0 [.iload_n 0, .iload_n 1] = true := by decide +kernel
theorem d_34_2 : decode ov_m34.2.1 2 = .ok (.if_icmp .lt 7, 3) := by decide +kernel
theorem b_34_9_1 : ov_ds ov_m34.2.1 9 [.iload_n 1] = true := by decide +kernel
theorem d_34_10 : decode ov_m34.2.1 10 = .ok (.ireturn, 1) := by decide +kernel
theorem b_34_5_1 : ov_ds ov_m34.2.1 5 [.iload_n 0] = true := by decide +kernel
theorem d_34_6 : decode ov_m34.2.1 6 = .ok (.goto 4, 3) := by decide +kernel
theorem b_35_0_2 : ov_ds ov_m35.2.1 0 [.iload_n 0, .iload_n 1] = true := by decide +kernel
theorem d_35_2 : decode ov_m35.2.1 2 = .ok (.if_icmp .gt 7, 3) := by decide +kernel
theorem b_35_9_1 : ov_ds ov_m35.2.1 9 [.iload_n 1] = true := by decide +kernel
theorem d_35_10 : decode ov_m35.2.1 10 = .ok (.ireturn, 1) := by decide +kernel
theorem b_35_5_1 : ov_ds ov_m35.2.1 5 [.iload_n 0] = true := by decide +kernel
theorem d_35_6 : decode ov_m35.2.1 6 = .ok (.goto 4, 3) := by decide +kernel
theorem b_183_0_4 : ov_ds ov_m183.2.1 0 [.lload_n 0, .lload_n 0, .iconst 1, .lushr] = true := by decide +kernel
theorem d_183_4 : decode ov_m183.2.1 4 = .ok (.ldc2_w 314, 3) := by decide +kernel
theorem b_183_7_4 : ov_ds ov_m183.2.1 7 [.land, .lsub, .lstore_n 0, .lload_n 0] = true := by decide +kernel
theorem d_183_11 : decode ov_m183.2.1 11 = .ok (.ldc2_w 316, 3) := by decide +kernel
theorem b_183_14_4 : ov_ds ov_m183.2.1 14 [.land, .lload_n 0, .iconst 2, .lushr] = true := by decide +kernel
theorem d_183_18 : decode ov_m183.2.1 18 = .ok (.ldc2_w 316, 3) := by decide +kernel
theorem b_183_21_8 : ov_ds ov_m183.2.1 21 [.land, .ladd, .lstore_n 0, .lload_n 0, .lload_n 0, .iconst 4, .lushr, .ladd] = true := by decide +kernel
theorem d_183_29 : decode ov_m183.2.1 29 = .ok (.ldc2_w 318, 3) := by decide +kernel
theorem b_183_32_22 : ov_ds ov_m183.2.1 32 [.land, .lstore_n 0, .lload_n 0, .lload_n 0, .bipush 8, .lushr, .ladd, .lstore_n 0, .lload_n 0, .lload_n 0, .bipush 16, .lushr, .ladd, .lstore_n 0, .lload_n 0, .lload_n 0, .bipush 32, .lushr, .ladd, .lstore_n 0, .lload_n 0, .l2i] = true := by decide +kernel
theorem b_183_57_2 : ov_ds ov_m183.2.1 57 [.bipush 127, .iand] = true := by decide +kernel
theorem d_183_60 : decode ov_m183.2.1 60 = .ok (.ireturn, 1) := by decide +kernel
theorem b_100_0_2 : ov_ds ov_m100.2.1 0 [.iload_n 0, .iload_n 1] = true := by decide +kernel
theorem d_100_2 : decode ov_m100.2.1 2 = .ok (.irem, 1) := by decide +kernel
theorem b_100_3_4 : ov_ds ov_m100.2.1 3 [.istore_n 2, .iload_n 0, .iload_n 1, .ixor] = true := by decide +kernel
theorem d_100_7 : decode ov_m100.2.1 7 = .ok (.ifCond .ge 11, 3) := by decide +kernel
theorem b_100_18_1 : ov_ds ov_m100.2.1 18 [.iload_n 2] = true := by decide +kernel
theorem d_100_19 : decode ov_m100.2.1 19 = .ok (.ireturn, 1) := by decide +kernel
theorem b_100_10_1 : ov_ds ov_m100.2.1 10 [.iload_n 2] = true := by decide +kernel
theorem d_100_11 : decode ov_m100.2.1 11 = .ok (.ifCond .eq 7, 3) := by decide +kernel
theorem b_100_14_3 : ov_ds ov_m100.2.1 14 [.iload_n 2, .iload_n 1, .iadd] = true := by decide +kernel
theorem d_100_17 : decode ov_m100.2.1 17 = .ok (.ireturn, 1) := by decide +kernel
theorem b_14_0_3 : ov_ds ov_m14.2.1 0 [.iconst 0, .istore_n 2, .aload_n 0] = true := by decide +kernel
theorem d_14_3 : decode ov_m14.2.1 3 = .ok (.arraylength, 1) := by decide +kernel
theorem b_14_4_1 : ov_ds ov_m14.2.1 4 [.istore_n 3] = true := by decide +kernel
theorem b_14_5_2 : ov_ds ov_m14.2.1 5 [.iload_n 2, .iload_n 3] = true := by decide +kernel
theorem d_14_7 : decode ov_m14.2.1 7 = .ok (.if_icmp .ge 13, 3) := by decide +kernel
theorem d_14_20 : decode ov_m14.2.1 20 = .ok (.return_, 1) := by decide +kernel
theorem b_14_10_3 : ov_ds ov_m14.2.1 10 [.aload_n 0, .iload_n 2, .iload_n 1] = true := by decide +kernel
theorem d_14_13 : decode ov_m14.2.1 13 = .ok (.iastore, 1) := by decide +kernel
theorem b_14_14_1 : ov_ds ov_m14.2.1 14 [.iinc 2 1] = true := by decide +kernel
theorem d_14_17 : decode ov_m14.2.1 17 = .ok (.goto (-12), 3) := by decide +kernel
abbrev P_Math_max (F : ov_H) (z : ov_Z) (h : ov_H) (a : Int) (b : Int) : Option ov_V → ov_Z → ov_H → Prop := fun r0 z' h' => ∃ r : Int, r0 = some (ov_i r) ∧ z = z' ∧ h = h' ∧ (a ≤ r ∧ b ≤ r ∧ (r = a ∨ r = b))
set_option maxHeartbeats 4000000 in
theorem c_Math_max {u : ov_U} {F : ov_H} {z : ov_Z} {h : ov_H} (d : Nat) (hd : 0 ≤ d) (U : ov_cap u) (I : ov_I F z h) (a : Int) (b : Int) (g_a : ov_g a) (g_b : ov_g b) : ov_T u d ov_m34 [ov_i a, ov_i b] z h (P_Math_max F z h a b) := by
  refine ov_enF pf_34 (Nat.le_of_ble_eq_true rfl) ?_
  show ov_R u d ov_m34 0 [(0, ov_i a), (1, ov_i b)] [] z h (P_Math_max F z h a b)
  refine ov_blk (ls2 := [(0, ov_i a), (1, ov_i b)]) (st2 := [ov_i b, ov_i a]) (pc2 := 2) b_34_0_2 rfl rfl ?_
  refine ov_iclt (tgt := 9) d_34_2 (by decide) (by omega) (by omega) (fun c1 => ?_) (fun c1 => ?_)
  · skip
    refine ov_blk (ls2 := [(0, ov_i a), (1, ov_i b)]) (st2 := [ov_i b]) (pc2 := 10) b_34_9_1 rfl rfl ?_
    exact ov_reti (st := []) d_34_10 rfl ⟨_, rfl, rfl, rfl, (by show a ≤ b ∧ b ≤ b ∧ (b = a ∨ b = b); omega)⟩
  · skip
    refine ov_blk (ls2 := [(0, ov_i a), (1, ov_i b)]) (st2 := [ov_i a]) (pc2 := 6) b_34_5_1 rfl rfl ?_
    refine ov_goto (tgt := 10) d_34_6 (by decide) ?_
    exact ov_reti (st := []) d_34_10 rfl ⟨_, rfl, rfl, rfl, (by show a ≤ a ∧ b ≤ a ∧ (a = a ∨ a = b); omega)⟩
abbrev P_Math_min (F : ov_H) (z : ov_Z) (h : ov_H) (a : Int) (b : Int) : Option ov_V → ov_Z → ov_H → Prop := fun r0 z' h' => ∃ r : Int, r0 = some (ov_i r) ∧ z = z' ∧ h = h' ∧ (r ≤ a ∧ r ≤ b ∧ (r = a ∨ r = b))
set_option maxHeartbeats 4000000 in
theorem c_Math_min {u : ov_U} {F : ov_H} {z : ov_Z} {h : ov_H} (d : Nat) (hd : 0 ≤ d) (U : ov_cap u) (I : ov_I F z h) (a : Int) (b : Int) (g_a : ov_g a) (g_b : ov_g b) : ov_T u d ov_m35 [ov_i a, ov_i b] z h (P_Math_min F z h a b) := by
  refine ov_enF pf_35 (Nat.le_of_ble_eq_true rfl) ?_
  show ov_R u d ov_m35 0 [(0, ov_i a), (1, ov_i b)] [] z h (P_Math_min F z h a b)
  refine ov_blk (ls2 := [(0, ov_i a), (1, ov_i b)]) (st2 := [ov_i b, ov_i a]) (pc2 := 2) b_35_0_2 rfl rfl ?_
  refine ov_icgt (tgt := 9) d_35_2 (by decide) (by omega) (by omega) (fun c1 => ?_) (fun c1 => ?_)
  · skip
    refine ov_blk (ls2 := [(0, ov_i a), (1, ov_i b)]) (st2 := [ov_i b]) (pc2 := 10) b_35_9_1 rfl rfl ?_
    exact ov_reti (st := []) d_35_10 rfl ⟨_, rfl, rfl, rfl, (by show b ≤ a ∧ b ≤ b ∧ (b = a ∨ b = b); omega)⟩
  · skip
    refine ov_blk (ls2 := [(0, ov_i a), (1, ov_i b)]) (st2 := [ov_i a]) (pc2 := 6) b_35_5_1 rfl rfl ?_
    refine ov_goto (tgt := 10) d_35_6 (by decide) ?_
    exact ov_reti (st := []) d_35_10 rfl ⟨_, rfl, rfl, rfl, (by show a ≤ a ∧ a ≤ b ∧ (a = a ∨ a = b); omega)⟩
abbrev P_Long_bitCount (F : ov_H) (z : ov_Z) (h : ov_H) (w : Int) : Option ov_V → ov_Z → ov_H → Prop := fun r0 z' h' => ∃ r : Int, r0 = some (ov_i r) ∧ z = z' ∧ h = h' ∧ (-2147483648 ≤ r ∧ r ≤ 2147483647)
set_option maxHeartbeats 4000000 in
theorem c_Long_bitCount {u : ov_U} {F : ov_H} {z : ov_Z} {h : ov_H} (d : Nat) (hd : 0 ≤ d) (U : ov_cap u) (I : ov_I F z h) (w : Int) : ov_T u d ov_m183 [ov_l w] z h (P_Long_bitCount F z h w) := by
  refine ov_en rfl (Nat.le_of_ble_eq_true rfl) ?_
  show ov_R u d ov_m183 0 [(0, ov_l w)] [] z h (P_Long_bitCount F z h w)
  refine ov_blk (ls2 := [(0, ov_l w)]) (st2 := [ov_l (ov_lushr w 1), ov_l w]) (pc2 := 4) b_183_0_4 rfl rfl ?_
  refine ov_ldc2 (n := 6148914691236517205) d_183_4 kc_Long_314 ?_
  refine ov_blk (ls2 := [(0, ov_l (w - (ov_land (ov_lushr w 1) 6148914691236517205)))]) (st2 := [ov_l (w - (ov_land (ov_lushr w 1) 6148914691236517205))]) (pc2 := 11) b_183_7_4 rfl rfl ?_
  refine ov_ldc2 (n := 3689348814741910323) d_183_11 kc_Long_316 ?_
  refine ov_blk (ls2 := [(0, ov_l (w - (ov_land (ov_lushr w 1) 6148914691236517205)))]) (st2 := [ov_l (ov_lushr (w - (ov_land (ov_lushr w 1) 6148914691236517205)) 2), ov_l (ov_land (w - (ov_land (ov_lushr w 1) 6148914691236517205)) 3689348814741910323)]) (pc2 := 18) b_183_14_4 rfl rfl ?_
  refine ov_ldc2 (n := 3689348814741910323) d_183_18 kc_Long_316 ?_
  refine ov_blk (ls2 := [(0, ov_l ((ov_land (w - (ov_land (ov_lushr w 1) 6148914691236517205)) 3689348814741910323) + (ov_land (ov_lushr (w - (ov_land (ov_lushr w 1) 6148914691236517205)) 2) 3689348814741910323)))]) (st2 := [ov_l (((ov_land (w - (ov_land (ov_lushr w 1) 6148914691236517205)) 3689348814741910323) + (ov_land (ov_lushr (w - (ov_land (ov_lushr w 1) 6148914691236517205)) 2) 3689348814741910323)) + (ov_lushr ((ov_land (w - (ov_land (ov_lushr w 1) 6148914691236517205)) 3689348814741910323) + (ov_land (ov_lushr (w - (ov_land (ov_lushr w 1) 6148914691236517205)) 2) 3689348814741910323)) 4))]) (pc2 := 29) b_183_21_8 rfl rfl ?_
  refine ov_ldc2 (n := 1085102592571150095) d_183_29 kc_Long_318 ?_
  refine ov_blk (ls2 := [(0, ov_l ((((ov_land (((ov_land (w - (ov_land (ov_lushr w 1) 6148914691236517205)) 3689348814741910323) + (ov_land (ov_lushr (w - (ov_land (ov_lushr w 1) 6148914691236517205)) 2) 3689348814741910323)) + (ov_lushr ((ov_land (w - (ov_land (ov_lushr w 1) 6148914691236517205)) 3689348814741910323) + (ov_land (ov_lushr (w - (ov_land (ov_lushr w 1) 6148914691236517205)) 2) 3689348814741910323)) 4)) 1085102592571150095) + (ov_lushr (ov_land (((ov_land (w - (ov_land (ov_lushr w 1) 6148914691236517205)) 3689348814741910323) + (ov_land (ov_lushr (w - (ov_land (ov_lushr w 1) 6148914691236517205)) 2) 3689348814741910323)) + (ov_lushr ((ov_land (w - (ov_land (ov_lushr w 1) 6148914691236517205)) 3689348814741910323) + (ov_land (ov_lushr (w - (ov_land (ov_lushr w 1) 6148914691236517205)) 2) 3689348814741910323)) 4)) 1085102592571150095) 8)) + (ov_lushr ((ov_land (((ov_land (w - (ov_land (ov_lushr w 1) 6148914691236517205)) 3689348814741910323) + (ov_land (ov_lushr (w - (ov_land (ov_lushr w 1) 6148914691236517205)) 2) 3689348814741910323)) + (ov_lushr ((ov_land (w - (ov_land (ov_lushr w 1) 6148914691236517205)) 3689348814741910323) + (ov_land (ov_lushr (w - (ov_land (ov_lushr w 1) 6148914691236517205)) 2) 3689348814741910323)) 4)) 1085102592571150095) + (ov_lushr (ov_land (((ov_land (w - (ov_land (ov_lushr w 1) 6148914691236517205)) 3689348814741910323) + (ov_land (ov_lushr (w - (ov_land (ov_lushr w 1) 6148914691236517205)) 2) 3689348814741910323)) + (ov_lushr ((ov_land (w - (ov_land (ov_lushr w 1) 6148914691236517205)) 3689348814741910323) + (ov_land (ov_lushr (w - (ov_land (ov_lushr w 1) 6148914691236517205)) 2) 3689348814741910323)) 4)) 1085102592571150095) 8)) 16)) + (ov_lushr (((ov_land (((ov_land (w - (ov_land (ov_lushr w 1) 6148914691236517205)) 3689348814741910323) + (ov_land (ov_lushr (w - (ov_land (ov_lushr w 1) 6148914691236517205)) 2) 3689348814741910323)) + (ov_lushr ((ov_land (w - (ov_land (ov_lushr w 1) 6148914691236517205)) 3689348814741910323) + (ov_land (ov_lushr (w - (ov_land (ov_lushr w 1) 6148914691236517205)) 2) 3689348814741910323)) 4)) 1085102592571150095) + (ov_lushr (ov_land (((ov_land (w - (ov_land (ov_lushr w 1) 6148914691236517205)) 3689348814741910323) + (ov_land (ov_lushr (w - (ov_land (ov_lushr w 1) 6148914691236517205)) 2) 3689348814741910323)) + (ov_lushr ((ov_land (w - (ov_land (ov_lushr w 1) 6148914691236517205)) 3689348814741910323) + (ov_land (ov_lushr (w - (ov_land (ov_lushr w 1) 6148914691236517205)) 2) 3689348814741910323)) 4)) 1085102592571150095) 8)) + (ov_lushr ((ov_land (((ov_land (w - (ov_land (ov_lushr w 1) 6148914691236517205)) 3689348814741910323) + (ov_land (ov_lushr (w - (ov_land (ov_lushr w 1) 6148914691236517205)) 2) 3689348814741910323)) + (ov_lushr ((ov_land (w - (ov_land (ov_lushr w 1) 6148914691236517205)) 3689348814741910323) + (ov_land (ov_lushr (w - (ov_land (ov_lushr w 1) 6148914691236517205)) 2) 3689348814741910323)) 4)) 1085102592571150095) + (ov_lushr (ov_land (((ov_land (w - (ov_land (ov_lushr w 1) 6148914691236517205)) 3689348814741910323) + (ov_land (ov_lushr (w - (ov_land (ov_lushr w 1) 6148914691236517205)) 2) 3689348814741910323)) + (ov_lushr ((ov_land (w - (ov_land (ov_lushr w 1) 6148914691236517205)) 3689348814741910323) + (ov_land (ov_lushr (w - (ov_land (ov_lushr w 1) 6148914691236517205)) 2) 3689348814741910323)) 4)) 1085102592571150095) 8)) 16)) 32)))]) (st2 := [ov_i ((((ov_land (((ov_land (w - (ov_land (ov_lushr w 1) 6148914691236517205)) 3689348814741910323) + (ov_land (ov_lushr (w - (ov_land (ov_lushr w 1) 6148914691236517205)) 2) 3689348814741910323)) + (ov_lushr ((ov_land (w - (ov_land (ov_lushr w 1) 6148914691236517205)) 3689348814741910323) + (ov_land (ov_lushr (w - (ov_land (ov_lushr w 1) 6148914691236517205)) 2) 3689348814741910323)) 4)) 1085102592571150095) + (ov_lushr (ov_land (((ov_land (w - (ov_land (ov_lushr w 1) 6148914691236517205)) 3689348814741910323) + (ov_land (ov_lushr (w - (ov_land (ov_lushr w 1) 6148914691236517205)) 2) 3689348814741910323)) + (ov_lushr ((ov_land (w - (ov_land (ov_lushr w 1) 6148914691236517205)) 3689348814741910323) + (ov_land (ov_lushr (w - (ov_land (ov_lushr w 1) 6148914691236517205)) 2) 3689348814741910323)) 4)) 1085102592571150095) 8)) + (ov_lushr ((ov_land (((ov_land (w - (ov_land (ov_lushr w 1) 6148914691236517205)) 3689348814741910323) + (ov_land (ov_lushr (w - (ov_land (ov_lushr w 1) 6148914691236517205)) 2) 3689348814741910323)) + (ov_lushr ((ov_land (w - (ov_land (ov_lushr w 1) 6148914691236517205)) 3689348814741910323) + (ov_land (ov_lushr (w - (ov_land (ov_lushr w 1) 6148914691236517205)) 2) 3689348814741910323)) 4)) 1085102592571150095) + (ov_lushr (ov_land (((ov_land (w - (ov_land (ov_lushr w 1) 6148914691236517205)) 3689348814741910323) + (ov_land (ov_lushr (w - (ov_land (ov_lushr w 1) 6148914691236517205)) 2) 3689348814741910323)) + (ov_lushr ((ov_land (w - (ov_land (ov_lushr w 1) 6148914691236517205)) 3689348814741910323) + (ov_land (ov_lushr (w - (ov_land (ov_lushr w 1) 6148914691236517205)) 2) 3689348814741910323)) 4)) 1085102592571150095) 8)) 16)) + (ov_lushr (((ov_land (((ov_land (w - (ov_land (ov_lushr w 1) 6148914691236517205)) 3689348814741910323) + (ov_land (ov_lushr (w - (ov_land (ov_lushr w 1) 6148914691236517205)) 2) 3689348814741910323)) + (ov_lushr ((ov_land (w - (ov_land (ov_lushr w 1) 6148914691236517205)) 3689348814741910323) + (ov_land (ov_lushr (w - (ov_land (ov_lushr w 1) 6148914691236517205)) 2) 3689348814741910323)) 4)) 1085102592571150095) + (ov_lushr (ov_land (((ov_land (w - (ov_land (ov_lushr w 1) 6148914691236517205)) 3689348814741910323) + (ov_land (ov_lushr (w - (ov_land (ov_lushr w 1) 6148914691236517205)) 2) 3689348814741910323)) + (ov_lushr ((ov_land (w - (ov_land (ov_lushr w 1) 6148914691236517205)) 3689348814741910323) + (ov_land (ov_lushr (w - (ov_land (ov_lushr w 1) 6148914691236517205)) 2) 3689348814741910323)) 4)) 1085102592571150095) 8)) + (ov_lushr ((ov_land (((ov_land (w - (ov_land (ov_lushr w 1) 6148914691236517205)) 3689348814741910323) + (ov_land (ov_lushr (w - (ov_land (ov_lushr w 1) 6148914691236517205)) 2) 3689348814741910323)) + (ov_lushr ((ov_land (w - (ov_land (ov_lushr w 1) 6148914691236517205)) 3689348814741910323) + (ov_land (ov_lushr (w - (ov_land (ov_lushr w 1) 6148914691236517205)) 2) 3689348814741910323)) 4)) 1085102592571150095) + (ov_lushr (ov_land (((ov_land (w - (ov_land (ov_lushr w 1) 6148914691236517205)) 3689348814741910323) + (ov_land (ov_lushr (w - (ov_land (ov_lushr w 1) 6148914691236517205)) 2) 3689348814741910323)) + (ov_lushr ((ov_land (w - (ov_land (ov_lushr w 1) 6148914691236517205)) 3689348814741910323) + (ov_land (ov_lushr (w - (ov_land (ov_lushr w 1) 6148914691236517205)) 2) 3689348814741910323)) 4)) 1085102592571150095) 8)) 16)) 32))]) (pc2 := 57) b_183_32_22 rfl rfl ?_
  refine ov_havw (fun w1 gw1 qw1 => ?_)
  refine ov_blk (ls2 := [(0, ov_l ((((ov_land (((ov_land (w - (ov_land (ov_lushr w 1) 6148914691236517205)) 3689348814741910323) + (ov_land (ov_lushr (w - (ov_land (ov_lushr w 1) 6148914691236517205)) 2) 3689348814741910323)) + (ov_lushr ((ov_land (w - (ov_land (ov_lushr w 1) 6148914691236517205)) 3689348814741910323) + (ov_land (ov_lushr (w - (ov_land (ov_lushr w 1) 6148914691236517205)) 2) 3689348814741910323)) 4)) 1085102592571150095) + (ov_lushr (ov_land (((ov_land (w - (ov_land (ov_lushr w 1) 6148914691236517205)) 3689348814741910323) + (ov_land (ov_lushr (w - (ov_land (ov_lushr w 1) 6148914691236517205)) 2) 3689348814741910323)) + (ov_lushr ((ov_land (w - (ov_land (ov_lushr w 1) 6148914691236517205)) 3689348814741910323) + (ov_land (ov_lushr (w - (ov_land (ov_lushr w 1) 6148914691236517205)) 2) 3689348814741910323)) 4)) 1085102592571150095) 8)) + (ov_lushr ((ov_land (((ov_land (w - (ov_land (ov_lushr w 1) 6148914691236517205)) 3689348814741910323) + (ov_land (ov_lushr (w - (ov_land (ov_lushr w 1) 6148914691236517205)) 2) 3689348814741910323)) + (ov_lushr ((ov_land (w - (ov_land (ov_lushr w 1) 6148914691236517205)) 3689348814741910323) + (ov_land (ov_lushr (w - (ov_land (ov_lushr w 1) 6148914691236517205)) 2) 3689348814741910323)) 4)) 1085102592571150095) + (ov_lushr (ov_land (((ov_land (w - (ov_land (ov_lushr w 1) 6148914691236517205)) 3689348814741910323) + (ov_land (ov_lushr (w - (ov_land (ov_lushr w 1) 6148914691236517205)) 2) 3689348814741910323)) + (ov_lushr ((ov_land (w - (ov_land (ov_lushr w 1) 6148914691236517205)) 3689348814741910323) + (ov_land (ov_lushr (w - (ov_land (ov_lushr w 1) 6148914691236517205)) 2) 3689348814741910323)) 4)) 1085102592571150095) 8)) 16)) + (ov_lushr (((ov_land (((ov_land (w - (ov_land (ov_lushr w 1) 6148914691236517205)) 3689348814741910323) + (ov_land (ov_lushr (w - (ov_land (ov_lushr w 1) 6148914691236517205)) 2) 3689348814741910323)) + (ov_lushr ((ov_land (w - (ov_land (ov_lushr w 1) 6148914691236517205)) 3689348814741910323) + (ov_land (ov_lushr (w - (ov_land (ov_lushr w 1) 6148914691236517205)) 2) 3689348814741910323)) 4)) 1085102592571150095) + (ov_lushr (ov_land (((ov_land (w - (ov_land (ov_lushr w 1) 6148914691236517205)) 3689348814741910323) + (ov_land (ov_lushr (w - (ov_land (ov_lushr w 1) 6148914691236517205)) 2) 3689348814741910323)) + (ov_lushr ((ov_land (w - (ov_land (ov_lushr w 1) 6148914691236517205)) 3689348814741910323) + (ov_land (ov_lushr (w - (ov_land (ov_lushr w 1) 6148914691236517205)) 2) 3689348814741910323)) 4)) 1085102592571150095) 8)) + (ov_lushr ((ov_land (((ov_land (w - (ov_land (ov_lushr w 1) 6148914691236517205)) 3689348814741910323) + (ov_land (ov_lushr (w - (ov_land (ov_lushr w 1) 6148914691236517205)) 2) 3689348814741910323)) + (ov_lushr ((ov_land (w - (ov_land (ov_lushr w 1) 6148914691236517205)) 3689348814741910323) + (ov_land (ov_lushr (w - (ov_land (ov_lushr w 1) 6148914691236517205)) 2) 3689348814741910323)) 4)) 1085102592571150095) + (ov_lushr (ov_land (((ov_land (w - (ov_land (ov_lushr w 1) 6148914691236517205)) 3689348814741910323) + (ov_land (ov_lushr (w - (ov_land (ov_lushr w 1) 6148914691236517205)) 2) 3689348814741910323)) + (ov_lushr ((ov_land (w - (ov_land (ov_lushr w 1) 6148914691236517205)) 3689348814741910323) + (ov_land (ov_lushr (w - (ov_land (ov_lushr w 1) 6148914691236517205)) 2) 3689348814741910323)) 4)) 1085102592571150095) 8)) 16)) 32)))]) (st2 := [ov_i (ov_and w1 127)]) (pc2 := 60) b_183_57_2 rfl rfl ?_
  have g2 := ov_andg w1 127
  exact ov_reti (st := []) d_183_60 rfl ⟨_, rfl, rfl, rfl, (by show -2147483648 ≤ (ov_and w1 127) ∧ (ov_and w1 127) ≤ 2147483647; omega)⟩
abbrev P_Math_floorMod_III (F : ov_H) (z : ov_Z) (h : ov_H) (a : Int) (b : Int) : Option ov_V → ov_Z → ov_H → Prop := fun r0 z' h' => ∃ r : Int, r0 = some (ov_i r) ∧ z = z' ∧ h = h' ∧ (0 ≤ r ∧ r < b)
set_option maxHeartbeats 4000000 in
theorem c_Math_floorMod_III {u : ov_U} {F : ov_H} {z : ov_Z} {h : ov_H} (d : Nat) (hd : 0 ≤ d) (U : ov_cap u) (I : ov_I F z h) (a : Int) (b : Int) (g_a : ov_g a) (g_b : ov_g b) (p0 : 0 < b) : ov_T u d ov_m100 [ov_i a, ov_i b] z h (P_Math_floorMod_III F z h a b) := by
  refine ov_enF pf_100 (Nat.le_of_ble_eq_true rfl) ?_
  show ov_R u d ov_m100 0 [(0, ov_i a), (1, ov_i b)] [] z h (P_Math_floorMod_III F z h a b)
  refine ov_blk (ls2 := [(0, ov_i a), (1, ov_i b)]) (st2 := [ov_i b, ov_i a]) (pc2 := 2) b_100_0_2 rfl rfl ?_
  refine ov_irem d_100_2 (by omega) (by omega) (by omega) ?_
  have g1 := ov_tmg (a := a) (b := b) (by omega) (by omega)
  refine ov_blk (ls2 := [(0, ov_i a), (1, ov_i b), (2, ov_i (Int.tmod a b))]) (st2 := [ov_i (ov_xor a b)]) (pc2 := 7) b_100_3_4 rfl rfl ?_
  have g2 := ov_xorg a b
  have fx := ov_xors (a := a) (b := b) (by omega) (by omega)
  have fy := ov_tms (a := a) (b := b) (by omega)
  refine ov_ifge (tgt := 18) d_100_7 (by decide) (by omega) (fun c3 => ?_) (fun c3 => ?_)
  · skip
    refine ov_blk (ls2 := [(0, ov_i a), (1, ov_i b), (2, ov_i (Int.tmod a b))]) (st2 := [ov_i (Int.tmod a b)]) (pc2 := 19) b_100_18_1 rfl rfl ?_
    exact ov_reti (st := []) d_100_19 rfl ⟨_, rfl, rfl, rfl, (by show 0 ≤ (Int.tmod a b) ∧ (Int.tmod a b) < b; omega)⟩
  · skip
    refine ov_blk (ls2 := [(0, ov_i a), (1, ov_i b), (2, ov_i (Int.tmod a b))]) (st2 := [ov_i (Int.tmod a b)]) (pc2 := 11) b_100_10_1 rfl rfl ?_
    refine ov_ifeq (tgt := 18) d_100_11 (by decide) (by omega) (fun c4 => ?_) (fun c4 => ?_)
    · skip
      refine ov_blk (ls2 := [(0, ov_i a), (1, ov_i b), (2, ov_i (Int.tmod a b))]) (st2 := [ov_i (Int.tmod a b)]) (pc2 := 19) b_100_18_1 rfl rfl ?_
      exact ov_reti (st := []) d_100_19 rfl ⟨_, rfl, rfl, rfl, (by show 0 ≤ (Int.tmod a b) ∧ (Int.tmod a b) < b; omega)⟩
    · skip
      refine ov_blk (ls2 := [(0, ov_i a), (1, ov_i b), (2, ov_i (Int.tmod a b))]) (st2 := [ov_i ((Int.tmod a b) + b)]) (pc2 := 17) b_100_14_3 rfl rfl ?_
      exact ov_reti (st := []) d_100_17 rfl ⟨_, rfl, rfl, rfl, (by show 0 ≤ ((Int.tmod a b) + b) ∧ ((Int.tmod a b) + b) < b; omega)⟩
abbrev P_Arrays_fill_AIIV_59 (F : ov_H) (z : ov_Z) (h : ov_H) (v : Int) : Option ov_V → ov_Z → ov_H → Prop := fun r0 z' h' => r0 = none ∧ ov_I F z' h' ∧ ((h' 36 7) = (h 36 7) ∧ (h' 1 1) = (h 1 1) ∧ (h' 90 2) = (h 90 2) ∧ (h' 0 10) = (h 0 10) ∧ (h' 0 11) = (h 0 11) ∧ (h' 0 12) = (h 0 12) ∧ (h' 0 13) = (h 0 13) ∧ (h' 3 1) = (h 3 1) ∧ (h' 36 8) = (h 36 8) ∧ (h' 46 3) = (h 46 3) ∧ (h' 46 4) = (h 46 4) ∧ (h' 49 4) = (h 49 4) ∧ (h' 49 5) = (h 49 5) ∧ (h' 64 0) = (h 64 0) ∧ (h' 76 0) = (h 76 0))
set_option maxHeartbeats 4000000 in
theorem c_Arrays_fill_AIIV_59 {u : ov_U} {F : ov_H} {z : ov_Z} {h : ov_H} (d : Nat) (hd : 0 ≤ d) (U : ov_cap u) (I : ov_I F z h) (hw : ov_kw 576460752303423488 F) (v : Int) (g_v : ov_g v) (p0 : (-1) ≤ v ∧ v ≤ 3) : ov_T u d ov_m14 [ov_r 59, ov_i v] z h (P_Arrays_fill_AIIV_59 F z h v) := by
  refine ov_en rfl (Nat.le_of_ble_eq_true rfl) ?_
  show ov_R u d ov_m14 0 [(0, ov_r 59), (1, ov_i v)] [] z h (P_Arrays_fill_AIIV_59 F z h v)
  refine ov_blk (ls2 := [(0, ov_r 59), (1, ov_i v), (2, ov_i 0)]) (st2 := [ov_r 59]) (pc2 := 3) b_14_0_3 rfl rfl ?_
  refine ov_alen d_14_3 (zb_59 I) (zs_59 I) (by decide) ?_
  show ov_R u d ov_m14 4 [(0, ov_r 59), (1, ov_i v), (2, ov_i 0)] [ov_i 54] z h (P_Arrays_fill_AIIV_59 F z h v)
  refine ov_blk (ls2 := [(0, ov_r 59), (1, ov_i v), (2, ov_i 0), (3, ov_i 54)]) (st2 := []) (pc2 := 5) b_14_4_1 rfl rfl ?_
  have L4 : ∀ (n1 : Nat) (x2 : Int) (z5 : ov_Z) (h6 : ov_H) (I7 : ov_I F z5 h6) (q3 : 0 ≤ x2 ∧ x2 ≤ 54 ∧ (h6 36 7) = (h 36 7) ∧ (h6 1 1) = (h 1 1) ∧ (h6 90 2) = (h 90 2) ∧ (h6 0 10) = (h 0 10) ∧ (h6 0 11) = (h 0 11) ∧ (h6 0 12) = (h 0 12) ∧ (h6 0 13) = (h 0 13) ∧ (h6 3 1) = (h 3 1) ∧ (h6 36 8) = (h 36 8) ∧ (h6 46 3) = (h 46 3) ∧ (h6 46 4) = (h 46 4) ∧ (h6 49 4) = (h 49 4) ∧ (h6 49 5) = (h 49 5) ∧ (h6 64 0) = (h 64 0) ∧ (h6 76 0) = (h 76 0)), 54 - x2 < (n1 : Int) → ov_R u d ov_m14 5 [(0, ov_r 59), (1, ov_i v), (2, ov_i x2), (3, ov_i 54)] [] z5 h6 (P_Arrays_fill_AIIV_59 F z h v) := by
    intro n1
    induction n1 with
    | zero =>
      intro x2 z5 h6 I7 q3 hn8
      exact absurd hn8 (by omega)
    | succ n1 ih2 =>
      intro x2 z5 h6 I7 q3 hn8
      refine ov_blk (ls2 := [(0, ov_r 59), (1, ov_i v), (2, ov_i x2), (3, ov_i 54)]) (st2 := [ov_i 54, ov_i x2]) (pc2 := 7) b_14_5_2 rfl rfl ?_
      refine ov_icge (tgt := 20) d_14_7 (by decide) (by omega) (by omega) (fun c9 => ?_) (fun c9 => ?_)
      · skip
        exact ov_retv (st := []) d_14_20 rfl ⟨rfl, I7, (by show (h6 36 7) = (h 36 7) ∧ (h6 1 1) = (h 1 1) ∧ (h6 90 2) = (h 90 2) ∧ (h6 0 10) = (h 0 10) ∧ (h6 0 11) = (h 0 11) ∧ (h6 0 12) = (h 0 12) ∧ (h6 0 13) = (h 0 13) ∧ (h6 3 1) = (h 3 1) ∧ (h6 36 8) = (h 36 8) ∧ (h6 46 3) = (h 46 3) ∧ (h6 46 4) = (h 46 4) ∧ (h6 49 4) = (h 49 4) ∧ (h6 49 5) = (h 49 5) ∧ (h6 64 0) = (h 64 0) ∧ (h6 76 0) = (h 76 0); omega)⟩
      · skip
        refine ov_blk (ls2 := [(0, ov_r 59), (1, ov_i v), (2, ov_i x2), (3, ov_i 54)]) (st2 := [ov_i v, ov_i x2, ov_r 59]) (pc2 := 13) b_14_10_3 rfl rfl ?_
        refine ov_iast d_14_13 (zb_59 I7) (zs_59 I7) (by omega) ?_
        have I10 := ua_59 (k := x2) (x := v) I7 (by omega) (hw 59 (by decide +kernel))
        refine ov_blk (ls2 := [(0, ov_r 59), (1, ov_i v), (2, ov_i (x2 + 1)), (3, ov_i 54)]) (st2 := []) (pc2 := 17) b_14_14_1 rfl rfl ?_
        refine ov_goto (tgt := 5) d_14_17 (by decide) ?_
        exact ih2 (x2 + 1) _ _ I10 (by show 0 ≤ (x2 + 1) ∧ (x2 + 1) ≤ 54 ∧ (h6 36 7) = (h 36 7) ∧ (h6 1 1) = (h 1 1) ∧ (h6 90 2) = (h 90 2) ∧ (h6 0 10) = (h 0 10) ∧ (h6 0 11) = (h 0 11) ∧ (h6 0 12) = (h 0 12) ∧ (h6 0 13) = (h 0 13) ∧ (h6 3 1) = (h 3 1) ∧ (h6 36 8) = (h 36 8) ∧ (h6 46 3) = (h 46 3) ∧ (h6 46 4) = (h 46 4) ∧ (h6 49 4) = (h 49 4) ∧ (h6 49 5) = (h 49 5) ∧ (h6 64 0) = (h 64 0) ∧ (h6 76 0) = (h 76 0); omega) (by omega)
  exact L4 55 0 _ _ I (by show 0 ≤ 0 ∧ 0 ≤ 54 ∧ (h 36 7) = (h 36 7) ∧ (h 1 1) = (h 1 1) ∧ (h 90 2) = (h 90 2) ∧ (h 0 10) = (h 0 10) ∧ (h 0 11) = (h 0 11) ∧ (h 0 12) = (h 0 12) ∧ (h 0 13) = (h 0 13) ∧ (h 3 1) = (h 3 1) ∧ (h 36 8) = (h 36 8) ∧ (h 46 3) = (h 46 3) ∧ (h 46 4) = (h 46 4) ∧ (h 49 4) = (h 49 4) ∧ (h 49 5) = (h 49 5) ∧ (h 64 0) = (h 64 0) ∧ (h 76 0) = (h 76 0); omega) (by omega)
abbrev P_Arrays_fill_AIIV_71 (F : ov_H) (z : ov_Z) (h : ov_H) (v : Int) : Option ov_V → ov_Z → ov_H → Prop := fun r0 z' h' => r0 = none ∧ ov_I F z' h' ∧ ((h' 36 7) = (h 36 7) ∧ (h' 1 1) = (h 1 1) ∧ (h' 90 2) = (h 90 2) ∧ (h' 0 10) = (h 0 10) ∧ (h' 0 11) = (h 0 11) ∧ (h' 0 12) = (h 0 12) ∧ (h' 0 13) = (h 0 13) ∧ (h' 3 1) = (h 3 1) ∧ (h' 36 8) = (h 36 8) ∧ (h' 46 3) = (h 46 3) ∧ (h' 46 4) = (h 46 4) ∧ (h' 49 4) = (h 49 4) ∧ (h' 49 5) = (h 49 5) ∧ (h' 64 0) = (h 64 0) ∧ (h' 76 0) = (h 76 0))
set_option maxHeartbeats 4000000 in
theorem c_Arrays_fill_AIIV_71 {u : ov_U} {F : ov_H} {z : ov_Z} {h : ov_H} (d : Nat) (hd : 0 ≤ d) (U : ov_cap u) (I : ov_I F z h) (hw : ov_kw 2361183241434822606848 F) (v : Int) (g_v : ov_g v) (p0 : (-1) ≤ v ∧ v ≤ 3) : ov_T u d ov_m14 [ov_r 71, ov_i v] z h (P_Arrays_fill_AIIV_71 F z h v) := by
  refine ov_en rfl (Nat.le_of_ble_eq_true rfl) ?_
  show ov_R u d ov_m14 0 [(0, ov_r 71), (1, ov_i v)] [] z h (P_Arrays_fill_AIIV_71 F z h v)
  refine ov_blk (ls2 := [(0, ov_r 71), (1, ov_i v), (2, ov_i 0)]) (st2 := [ov_r 71]) (pc2 := 3) b_14_0_3 rfl rfl ?_
  refine ov_alen d_14_3 (zb_71 I) (zs_71 I) (by decide) ?_
  show ov_R u d ov_m14 4 [(0, ov_r 71), (1, ov_i v), (2, ov_i 0)] [ov_i 54] z h (P_Arrays_fill_AIIV_71 F z h v)
  refine ov_blk (ls2 := [(0, ov_r 71), (1, ov_i v), (2, ov_i 0), (3, ov_i 54)]) (st2 := []) (pc2 := 5) b_14_4_1 rfl rfl ?_
  have L4 : ∀ (n1 : Nat) (x2 : Int) (z5 : ov_Z) (h6 : ov_H) (I7 : ov_I F z5 h6) (q3 : 0 ≤ x2 ∧ x2 ≤ 54 ∧ (h6 36 7) = (h 36 7) ∧ (h6 1 1) = (h 1 1) ∧ (h6 90 2) = (h 90 2) ∧ (h6 0 10) = (h 0 10) ∧ (h6 0 11) = (h 0 11) ∧ (h6 0 12) = (h 0 12) ∧ (h6 0 13) = (h 0 13) ∧ (h6 3 1) = (h 3 1) ∧ (h6 36 8) = (h 36 8) ∧ (h6 46 3) = (h 46 3) ∧ (h6 46 4) = (h 46 4) ∧ (h6 49 4) = (h 49 4) ∧ (h6 49 5) = (h 49 5) ∧ (h6 64 0) = (h 64 0) ∧ (h6 76 0) = (h 76 0)), 54 - x2 < (n1 : Int) → ov_R u d ov_m14 5 [(0, ov_r 71), (1, ov_i v), (2, ov_i x2), (3, ov_i 54)] [] z5 h6 (P_Arrays_fill_AIIV_71 F z h v) := by
    intro n1
    induction n1 with
    | zero =>
      intro x2 z5 h6 I7 q3 hn8
      exact absurd hn8 (by omega)
    | succ n1 ih2 =>
      intro x2 z5 h6 I7 q3 hn8
      refine ov_blk (ls2 := [(0, ov_r 71), (1, ov_i v), (2, ov_i x2), (3, ov_i 54)]) (st2 := [ov_i 54, ov_i x2]) (pc2 := 7) b_14_5_2 rfl rfl ?_
      refine ov_icge (tgt := 20) d_14_7 (by decide) (by omega) (by omega) (fun c9 => ?_) (fun c9 => ?_)
      · skip
        exact ov_retv (st := []) d_14_20 rfl ⟨rfl, I7, (by show (h6 36 7) = (h 36 7) ∧ (h6 1 1) = (h 1 1) ∧ (h6 90 2) = (h 90 2) ∧ (h6 0 10) = (h 0 10) ∧ (h6 0 11) = (h 0 11) ∧ (h6 0 12) = (h 0 12) ∧ (h6 0 13) = (h 0 13) ∧ (h6 3 1) = (h 3 1) ∧ (h6 36 8) = (h 36 8) ∧ (h6 46 3) = (h 46 3) ∧ (h6 46 4) = (h 46 4) ∧ (h6 49 4) = (h 49 4) ∧ (h6 49 5) = (h 49 5) ∧ (h6 64 0) = (h 64 0) ∧ (h6 76 0) = (h 76 0); omega)⟩
      · skip
        refine ov_blk (ls2 := [(0, ov_r 71), (1, ov_i v), (2, ov_i x2), (3, ov_i 54)]) (st2 := [ov_i v, ov_i x2, ov_r 71]) (pc2 := 13) b_14_10_3 rfl rfl ?_
        refine ov_iast d_14_13 (zb_71 I7) (zs_71 I7) (by omega) ?_
        have I10 := ua_71 (k := x2) (x := v) I7 (by omega) (hw 71 (by decide +kernel))
        refine ov_blk (ls2 := [(0, ov_r 71), (1, ov_i v), (2, ov_i (x2 + 1)), (3, ov_i 54)]) (st2 := []) (pc2 := 17) b_14_14_1 rfl rfl ?_
        refine ov_goto (tgt := 5) d_14_17 (by decide) ?_
        exact ih2 (x2 + 1) _ _ I10 (by show 0 ≤ (x2 + 1) ∧ (x2 + 1) ≤ 54 ∧ (h6 36 7) = (h 36 7) ∧ (h6 1 1) = (h 1 1) ∧ (h6 90 2) = (h 90 2) ∧ (h6 0 10) = (h 0 10) ∧ (h6 0 11) = (h 0 11) ∧ (h6 0 12) = (h 0 12) ∧ (h6 0 13) = (h 0 13) ∧ (h6 3 1) = (h 3 1) ∧ (h6 36 8) = (h 36 8) ∧ (h6 46 3) = (h 46 3) ∧ (h6 46 4) = (h 46 4) ∧ (h6 49 4) = (h 49 4) ∧ (h6 49 5) = (h 49 5) ∧ (h6 64 0) = (h 64 0) ∧ (h6 76 0) = (h 76 0); omega) (by omega)
  exact L4 55 0 _ _ I (by show 0 ≤ 0 ∧ 0 ≤ 54 ∧ (h 36 7) = (h 36 7) ∧ (h 1 1) = (h 1 1) ∧ (h 90 2) = (h 90 2) ∧ (h 0 10) = (h 0 10) ∧ (h 0 11) = (h 0 11) ∧ (h 0 12) = (h 0 12) ∧ (h 0 13) = (h 0 13) ∧ (h 3 1) = (h 3 1) ∧ (h 36 8) = (h 36 8) ∧ (h 46 3) = (h 46 3) ∧ (h 46 4) = (h 46 4) ∧ (h 49 4) = (h 49 4) ∧ (h 49 5) = (h 49 5) ∧ (h 64 0) = (h 64 0) ∧ (h 76 0) = (h 76 0); omega) (by omega)
abbrev P_Arrays_fill_AIIV_63 (F : ov_H) (z : ov_Z) (h : ov_H) (v : Int) : Option ov_V → ov_Z → ov_H → Prop := fun r0 z' h' => r0 = none ∧ ov_I F z' h' ∧ ((h' 36 7) = (h 36 7) ∧ (h' 1 1) = (h 1 1) ∧ (h' 90 2) = (h 90 2) ∧ (h' 0 10) = (h 0 10) ∧ (h' 0 11) = (h 0 11) ∧ (h' 0 12) = (h 0 12) ∧ (h' 0 13) = (h 0 13) ∧ (h' 3 1) = (h 3 1) ∧ (h' 36 8) = (h 36 8) ∧ (h' 46 3) = (h 46 3) ∧ (h' 46 4) = (h 46 4) ∧ (h' 49 4) = (h 49 4) ∧ (h' 49 5) = (h 49 5) ∧ (h' 64 0) = (h 64 0) ∧ (h' 76 0) = (h 76 0))
set_option maxHeartbeats 4000000 in
theorem c_Arrays_fill_AIIV_63 {u : ov_U} {F : ov_H} {z : ov_Z} {h : ov_H} (d : Nat) (hd : 0 ≤ d) (U : ov_cap u) (I : ov_I F z h) (hw : ov_kw 9223372036854775808 F) (v : Int) (g_v : ov_g v) (p0 : (-2147483648) ≤ v ∧ v ≤ 2147483647) : ov_T u d ov_m14 [ov_r 63, ov_i v] z h (P_Arrays_fill_AIIV_63 F z h v) := by
  refine ov_en rfl (Nat.le_of_ble_eq_true rfl) ?_
  show ov_R u d ov_m14 0 [(0, ov_r 63), (1, ov_i v)] [] z h (P_Arrays_fill_AIIV_63 F z h v)
  refine ov_blk (ls2 := [(0, ov_r 63), (1, ov_i v), (2, ov_i 0)]) (st2 := [ov_r 63]) (pc2 := 3) b_14_0_3 rfl rfl ?_
  refine ov_alen d_14_3 (zb_63 I) (zs_63 I) (by decide) ?_
  show ov_R u d ov_m14 4 [(0, ov_r 63), (1, ov_i v), (2, ov_i 0)] [ov_i 54] z h (P_Arrays_fill_AIIV_63 F z h v)
  refine ov_blk (ls2 := [(0, ov_r 63), (1, ov_i v), (2, ov_i 0), (3, ov_i 54)]) (st2 := []) (pc2 := 5) b_14_4_1 rfl rfl ?_
  have L4 : ∀ (n1 : Nat) (x2 : Int) (z5 : ov_Z) (h6 : ov_H) (I7 : ov_I F z5 h6) (q3 : 0 ≤ x2 ∧ x2 ≤ 54 ∧ (h6 36 7) = (h 36 7) ∧ (h6 1 1) = (h 1 1) ∧ (h6 90 2) = (h 90 2) ∧ (h6 0 10) = (h 0 10) ∧ (h6 0 11) = (h 0 11) ∧ (h6 0 12) = (h 0 12) ∧ (h6 0 13) = (h 0 13) ∧ (h6 3 1) = (h 3 1) ∧ (h6 36 8) = (h 36 8) ∧ (h6 46 3) = (h 46 3) ∧ (h6 46 4) = (h 46 4) ∧ (h6 49 4) = (h 49 4) ∧ (h6 49 5) = (h 49 5) ∧ (h6 64 0) = (h 64 0) ∧ (h6 76 0) = (h 76 0)), 54 - x2 < (n1 : Int) → ov_R u d ov_m14 5 [(0, ov_r 63), (1, ov_i v), (2, ov_i x2), (3, ov_i 54)] [] z5 h6 (P_Arrays_fill_AIIV_63 F z h v) := by
    intro n1
    induction n1 with
    | zero =>
      intro x2 z5 h6 I7 q3 hn8
      exact absurd hn8 (by omega)
    | succ n1 ih2 =>
      intro x2 z5 h6 I7 q3 hn8
      refine ov_blk (ls2 := [(0, ov_r 63), (1, ov_i v), (2, ov_i x2), (3, ov_i 54)]) (st2 := [ov_i 54, ov_i x2]) (pc2 := 7) b_14_5_2 rfl rfl ?_
      refine ov_icge (tgt := 20) d_14_7 (by decide) (by omega) (by omega) (fun c9 => ?_) (fun c9 => ?_)
      · skip
        exact ov_retv (st := []) d_14_20 rfl ⟨rfl, I7, (by show (h6 36 7) = (h 36 7) ∧ (h6 1 1) = (h 1 1) ∧ (h6 90 2) = (h 90 2) ∧ (h6 0 10) = (h 0 10) ∧ (h6 0 11) = (h 0 11) ∧ (h6 0 12) = (h 0 12) ∧ (h6 0 13) = (h 0 13) ∧ (h6 3 1) = (h 3 1) ∧ (h6 36 8) = (h 36 8) ∧ (h6 46 3) = (h 46 3) ∧ (h6 46 4) = (h 46 4) ∧ (h6 49 4) = (h 49 4) ∧ (h6 49 5) = (h 49 5) ∧ (h6 64 0) = (h 64 0) ∧ (h6 76 0) = (h 76 0); omega)⟩
      · skip
        refine ov_blk (ls2 := [(0, ov_r 63), (1, ov_i v), (2, ov_i x2), (3, ov_i 54)]) (st2 := [ov_i v, ov_i x2, ov_r 63]) (pc2 := 13) b_14_10_3 rfl rfl ?_
        refine ov_iast d_14_13 (zb_63 I7) (zs_63 I7) (by omega) ?_
        have I10 := ua_63 (k := x2) (x := v) I7 (by omega) (hw 63 (by decide +kernel))
        refine ov_blk (ls2 := [(0, ov_r 63), (1, ov_i v), (2, ov_i (x2 + 1)), (3, ov_i 54)]) (st2 := []) (pc2 := 17) b_14_14_1 rfl rfl ?_
        refine ov_goto (tgt := 5) d_14_17 (by decide) ?_
        exact ih2 (x2 + 1) _ _ I10 (by show 0 ≤ (x2 + 1) ∧ (x2 + 1) ≤ 54 ∧ (h6 36 7) = (h 36 7) ∧ (h6 1 1) = (h 1 1) ∧ (h6 90 2) = (h 90 2) ∧ (h6 0 10) = (h 0 10) ∧ (h6 0 11) = (h 0 11) ∧ (h6 0 12) = (h 0 12) ∧ (h6 0 13) = (h 0 13) ∧ (h6 3 1) = (h 3 1) ∧ (h6 36 8) = (h 36 8) ∧ (h6 46 3) = (h 46 3) ∧ (h6 46 4) = (h 46 4) ∧ (h6 49 4) = (h 49 4) ∧ (h6 49 5) = (h 49 5) ∧ (h6 64 0) = (h 64 0) ∧ (h6 76 0) = (h 76 0); omega) (by omega)
  exact L4 55 0 _ _ I (by show 0 ≤ 0 ∧ 0 ≤ 54 ∧ (h 36 7) = (h 36 7) ∧ (h 1 1) = (h 1 1) ∧ (h 90 2) = (h 90 2) ∧ (h 0 10) = (h 0 10) ∧ (h 0 11) = (h 0 11) ∧ (h 0 12) = (h 0 12) ∧ (h 0 13) = (h 0 13) ∧ (h 3 1) = (h 3 1) ∧ (h 36 8) = (h 36 8) ∧ (h 46 3) = (h 46 3) ∧ (h 46 4) = (h 46 4) ∧ (h 49 4) = (h 49 4) ∧ (h 49 5) = (h 49 5) ∧ (h 64 0) = (h 64 0) ∧ (h 76 0) = (h 76 0); omega) (by omega)
abbrev P_Arrays_fill_AIIV_75 (F : ov_H) (z : ov_Z) (h : ov_H) (v : Int) : Option ov_V → ov_Z → ov_H → Prop := fun r0 z' h' => r0 = none ∧ ov_I F z' h' ∧ ((h' 36 7) = (h 36 7) ∧ (h' 1 1) = (h 1 1) ∧ (h' 90 2) = (h 90 2) ∧ (h' 0 10) = (h 0 10) ∧ (h' 0 11) = (h 0 11) ∧ (h' 0 12) = (h 0 12) ∧ (h' 0 13) = (h 0 13) ∧ (h' 3 1) = (h 3 1) ∧ (h' 36 8) = (h 36 8) ∧ (h' 46 3) = (h 46 3) ∧ (h' 46 4) = (h 46 4) ∧ (h' 49 4) = (h 49 4) ∧ (h' 49 5) = (h 49 5) ∧ (h' 64 0) = (h 64 0) ∧ (h' 76 0) = (h 76 0))
set_option maxHeartbeats 4000000 in
theorem c_Arrays_fill_AIIV_75 {u : ov_U} {F : ov_H} {z : ov_Z} {h : ov_H} (d : Nat) (hd : 0 ≤ d) (U : ov_cap u) (I : ov_I F z h) (hw : ov_kw 37778931862957161709568 F) (v : Int) (g_v : ov_g v) (p0 : (-2147483648) ≤ v ∧ v ≤ 2147483647) : ov_T u d ov_m14 [ov_r 75, ov_i v] z h (P_Arrays_fill_AIIV_75 F z h v) := by
  refine ov_en rfl (Nat.le_of_ble_eq_true rfl) ?_
  show ov_R u d ov_m14 0 [(0, ov_r 75), (1, ov_i v)] [] z h (P_Arrays_fill_AIIV_75 F z h v)
  refine ov_blk (ls2 := [(0, ov_r 75), (1, ov_i v), (2, ov_i 0)]) (st2 := [ov_r 75]) (pc2 := 3) b_14_0_3 rfl rfl ?_
  refine ov_alen d_14_3 (zb_75 I) (zs_75 I) (by decide) ?_
  show ov_R u d ov_m14 4 [(0, ov_r 75), (1, ov_i v), (2, ov_i 0)] [ov_i 54] z h (P_Arrays_fill_AIIV_75 F z h v)
  refine ov_blk (ls2 := [(0, ov_r 75), (1, ov_i v), (2, ov_i 0), (3, ov_i 54)]) (st2 := []) (pc2 := 5) b_14_4_1 rfl rfl ?_
  have L4 : ∀ (n1 : Nat) (x2 : Int) (z5 : ov_Z) (h6 : ov_H) (I7 : ov_I F z5 h6) (q3 : 0 ≤ x2 ∧ x2 ≤ 54 ∧ (h6 36 7) = (h 36 7) ∧ (h6 1 1) = (h 1 1) ∧ (h6 90 2) = (h 90 2) ∧ (h6 0 10) = (h 0 10) ∧ (h6 0 11) = (h 0 11) ∧ (h6 0 12) = (h 0 12) ∧ (h6 0 13) = (h 0 13) ∧ (h6 3 1) = (h 3 1) ∧ (h6 36 8) = (h 36 8) ∧ (h6 46 3) = (h 46 3) ∧ (h6 46 4) = (h 46 4) ∧ (h6 49 4) = (h 49 4) ∧ (h6 49 5) = (h 49 5) ∧ (h6 64 0) = (h 64 0) ∧ (h6 76 0) = (h 76 0)), 54 - x2 < (n1 : Int) → ov_R u d ov_m14 5 [(0, ov_r 75), (1, ov_i v), (2, ov_i x2), (3, ov_i 54)] [] z5 h6 (P_Arrays_fill_AIIV_75 F z h v) := by
    intro n1
    induction n1 with
    | zero =>
      intro x2 z5 h6 I7 q3 hn8
      exact absurd hn8 (by omega)
    | succ n1 ih2 =>
      intro x2 z5 h6 I7 q3 hn8
      refine ov_blk (ls2 := [(0, ov_r 75), (1, ov_i v), (2, ov_i x2), (3, ov_i 54)]) (st2 := [ov_i 54, ov_i x2]) (pc2 := 7) b_14_5_2 rfl rfl ?_
      refine ov_icge (tgt := 20) d_14_7 (by decide) (by omega) (by omega) (fun c9 => ?_) (fun c9 => ?_)
      · skip
        exact ov_retv (st := []) d_14_20 rfl ⟨rfl, I7, (by show (h6 36 7) = (h 36 7) ∧ (h6 1 1) = (h 1 1) ∧ (h6 90 2) = (h 90 2) ∧ (h6 0 10) = (h 0 10) ∧ (h6 0 11) = (h 0 11) ∧ (h6 0 12) = (h 0 12) ∧ (h6 0 13) = (h 0 13) ∧ (h6 3 1) = (h 3 1) ∧ (h6 36 8) = (h 36 8) ∧ (h6 46 3) = (h 46 3) ∧ (h6 46 4) = (h 46 4) ∧ (h6 49 4) = (h 49 4) ∧ (h6 49 5) = (h 49 5) ∧ (h6 64 0) = (h 64 0) ∧ (h6 76 0) = (h 76 0); omega)⟩
      · skip
        refine ov_blk (ls2 := [(0, ov_r 75), (1, ov_i v), (2, ov_i x2), (3, ov_i 54)]) (st2 := [ov_i v, ov_i x2, ov_r 75]) (pc2 := 13) b_14_10_3 rfl rfl ?_
        refine ov_iast d_14_13 (zb_75 I7) (zs_75 I7) (by omega) ?_
        have I10 := ua_75 (k := x2) (x := v) I7 (by omega) (hw 75 (by decide +kernel))
        refine ov_blk (ls2 := [(0, ov_r 75), (1, ov_i v), (2, ov_i (x2 + 1)), (3, ov_i 54)]) (st2 := []) (pc2 := 17) b_14_14_1 rfl rfl ?_
        refine ov_goto (tgt := 5) d_14_17 (by decide) ?_
        exact ih2 (x2 + 1) _ _ I10 (by show 0 ≤ (x2 + 1) ∧ (x2 + 1) ≤ 54 ∧ (h6 36 7) = (h 36 7) ∧ (h6 1 1) = (h 1 1) ∧ (h6 90 2) = (h 90 2) ∧ (h6 0 10) = (h 0 10) ∧ (h6 0 11) = (h 0 11) ∧ (h6 0 12) = (h 0 12) ∧ (h6 0 13) = (h 0 13) ∧ (h6 3 1) = (h 3 1) ∧ (h6 36 8) = (h 36 8) ∧ (h6 46 3) = (h 46 3) ∧ (h6 46 4) = (h 46 4) ∧ (h6 49 4) = (h 49 4) ∧ (h6 49 5) = (h 49 5) ∧ (h6 64 0) = (h 64 0) ∧ (h6 76 0) = (h 76 0); omega) (by omega)
  exact L4 55 0 _ _ I (by show 0 ≤ 0 ∧ 0 ≤ 54 ∧ (h 36 7) = (h 36 7) ∧ (h 1 1) = (h 1 1) ∧ (h 90 2) = (h 90 2) ∧ (h 0 10) = (h 0 10) ∧ (h 0 11) = (h 0 11) ∧ (h 0 12) = (h 0 12) ∧ (h 0 13) = (h 0 13) ∧ (h 3 1) = (h 3 1) ∧ (h 36 8) = (h 36 8) ∧ (h 46 3) = (h 46 3) ∧ (h 46 4) = (h 46 4) ∧ (h 49 4) = (h 49 4) ∧ (h 49 5) = (h 49 5) ∧ (h 64 0) = (h 64 0) ∧ (h 76 0) = (h 76 0); omega) (by omega)
abbrev P_Arrays_fill_AIIV_64 (F : ov_H) (z : ov_Z) (h : ov_H) (v : Int) : Option ov_V → ov_Z → ov_H → Prop := fun r0 z' h' => r0 = none ∧ ov_I F z' h' ∧ ((h' 36 7) = (h 36 7) ∧ (h' 1 1) = (h 1 1) ∧ (h' 90 2) = (h 90 2) ∧ (h' 0 10) = (h 0 10) ∧ (h' 0 11) = (h 0 11) ∧ (h' 0 12) = (h 0 12) ∧ (h' 0 13) = (h 0 13) ∧ (h' 3 1) = (h 3 1) ∧ (h' 36 8) = (h 36 8) ∧ (h' 46 3) = (h 46 3) ∧ (h' 46 4) = (h 46 4) ∧ (h' 49 4) = (h 49 4) ∧ (h' 49 5) = (h 49 5) ∧ (h' 76 0) = (h 76 0))
set_option maxHeartbeats 4000000 in
theorem c_Arrays_fill_AIIV_64 {u : ov_U} {F : ov_H} {z : ov_Z} {h : ov_H} (d : Nat) (hd : 0 ≤ d) (U : ov_cap u) (I : ov_I F z h) (hw : ov_kw 18446744073709551616 F) (v : Int) (g_v : ov_g v) (p0 : v = -1) : ov_T u d ov_m14 [ov_r 64, ov_i v] z h (P_Arrays_fill_AIIV_64 F z h v) := by
  refine ov_en rfl (Nat.le_of_ble_eq_true rfl) ?_
  show ov_R u d ov_m14 0 [(0, ov_r 64), (1, ov_i v)] [] z h (P_Arrays_fill_AIIV_64 F z h v)
  refine ov_blk (ls2 := [(0, ov_r 64), (1, ov_i v), (2, ov_i 0)]) (st2 := [ov_r 64]) (pc2 := 3) b_14_0_3 rfl rfl ?_
  refine ov_alen d_14_3 (zb_64 I) (zs_64 I) (by decide) ?_
  show ov_R u d ov_m14 4 [(0, ov_r 64), (1, ov_i v), (2, ov_i 0)] [ov_i 4] z h (P_Arrays_fill_AIIV_64 F z h v)
  refine ov_blk (ls2 := [(0, ov_r 64), (1, ov_i v), (2, ov_i 0), (3, ov_i 4)]) (st2 := []) (pc2 := 5) b_14_4_1 rfl rfl ?_
  have L4 : ∀ (n1 : Nat) (x2 : Int) (z5 : ov_Z) (h6 : ov_H) (I7 : ov_I F z5 h6) (q3 : 0 ≤ x2 ∧ x2 ≤ 4 ∧ (h6 36 7) = (h 36 7) ∧ (h6 1 1) = (h 1 1) ∧ (h6 90 2) = (h 90 2) ∧ (h6 0 10) = (h 0 10) ∧ (h6 0 11) = (h 0 11) ∧ (h6 0 12) = (h 0 12) ∧ (h6 0 13) = (h 0 13) ∧ (h6 3 1) = (h 3 1) ∧ (h6 36 8) = (h 36 8) ∧ (h6 46 3) = (h 46 3) ∧ (h6 46 4) = (h 46 4) ∧ (h6 49 4) = (h 49 4) ∧ (h6 49 5) = (h 49 5) ∧ (h6 76 0) = (h 76 0)), 4 - x2 < (n1 : Int) → ov_R u d ov_m14 5 [(0, ov_r 64), (1, ov_i v), (2, ov_i x2), (3, ov_i 4)] [] z5 h6 (P_Arrays_fill_AIIV_64 F z h v) := by
    intro n1
    induction n1 with
    | zero =>
      intro x2 z5 h6 I7 q3 hn8
      exact absurd hn8 (by omega)
    | succ n1 ih2 =>
      intro x2 z5 h6 I7 q3 hn8
      refine ov_blk (ls2 := [(0, ov_r 64), (1, ov_i v), (2, ov_i x2), (3, ov_i 4)]) (st2 := [ov_i 4, ov_i x2]) (pc2 := 7) b_14_5_2 rfl rfl ?_
      refine ov_icge (tgt := 20) d_14_7 (by decide) (by omega) (by omega) (fun c9 => ?_) (fun c9 => ?_)
      · skip
        exact ov_retv (st := []) d_14_20 rfl ⟨rfl, I7, (by show (h6 36 7) = (h 36 7) ∧ (h6 1 1) = (h 1 1) ∧ (h6 90 2) = (h 90 2) ∧ (h6 0 10) = (h 0 10) ∧ (h6 0 11) = (h 0 11) ∧ (h6 0 12) = (h 0 12) ∧ (h6 0 13) = (h 0 13) ∧ (h6 3 1) = (h 3 1) ∧ (h6 36 8) = (h 36 8) ∧ (h6 46 3) = (h 46 3) ∧ (h6 46 4) = (h 46 4) ∧ (h6 49 4) = (h 49 4) ∧ (h6 49 5) = (h 49 5) ∧ (h6 76 0) = (h 76 0); omega)⟩
      · skip
        refine ov_blk (ls2 := [(0, ov_r 64), (1, ov_i v), (2, ov_i x2), (3, ov_i 4)]) (st2 := [ov_i v, ov_i x2, ov_r 64]) (pc2 := 13) b_14_10_3 rfl rfl ?_
        refine ov_iast d_14_13 (zb_64 I7) (zs_64 I7) (by omega) ?_
        have I10 := ua_64 (k := x2) (x := v) I7 (by omega) (hw 64 (by decide +kernel))
        refine ov_blk (ls2 := [(0, ov_r 64), (1, ov_i v), (2, ov_i (x2 + 1)), (3, ov_i 4)]) (st2 := []) (pc2 := 17) b_14_14_1 rfl rfl ?_
        refine ov_goto (tgt := 5) d_14_17 (by decide) ?_
        exact ih2 (x2 + 1) _ _ I10 (by show 0 ≤ (x2 + 1) ∧ (x2 + 1) ≤ 4 ∧ (h6 36 7) = (h 36 7) ∧ (h6 1 1) = (h 1 1) ∧ (h6 90 2) = (h 90 2) ∧ (h6 0 10) = (h 0 10) ∧ (h6 0 11) = (h 0 11) ∧ (h6 0 12) = (h 0 12) ∧ (h6 0 13) = (h 0 13) ∧ (h6 3 1) = (h 3 1) ∧ (h6 36 8) = (h 36 8) ∧ (h6 46 3) = (h 46 3) ∧ (h6 46 4) = (h 46 4) ∧ (h6 49 4) = (h 49 4) ∧ (h6 49 5) = (h 49 5) ∧ (h6 76 0) = (h 76 0); omega) (by omega)
  exact L4 5 0 _ _ I (by show 0 ≤ 0 ∧ 0 ≤ 4 ∧ (h 36 7) = (h 36 7) ∧ (h 1 1) = (h 1 1) ∧ (h 90 2) = (h 90 2) ∧ (h 0 10) = (h 0 10) ∧ (h 0 11) = (h 0 11) ∧ (h 0 12) = (h 0 12) ∧ (h 0 13) = (h 0 13) ∧ (h 3 1) = (h 3 1) ∧ (h 36 8) = (h 36 8) ∧ (h 46 3) = (h 46 3) ∧ (h 46 4) = (h 46 4) ∧ (h 49 4) = (h 49 4) ∧ (h 49 5) = (h 49 5) ∧ (h 76 0) = (h 76 0); omega) (by omega)
abbrev P_Arrays_fill_AIIV_76 (F : ov_H) (z : ov_Z) (h : ov_H) (v : Int) : Option ov_V → ov_Z → ov_H → Prop := fun r0 z' h' => r0 = none ∧ ov_I F z' h' ∧ ((h' 36 7) = (h 36 7) ∧ (h' 1 1) = (h 1 1) ∧ (h' 90 2) = (h 90 2) ∧ (h' 0 10) = (h 0 10) ∧ (h' 0 11) = (h 0 11) ∧ (h' 0 12) = (h 0 12) ∧ (h' 0 13) = (h 0 13) ∧ (h' 3 1) = (h 3 1) ∧ (h' 36 8) = (h 36 8) ∧ (h' 46 3) = (h 46 3) ∧ (h' 46 4) = (h 46 4) ∧ (h' 49 4) = (h 49 4) ∧ (h' 49 5) = (h 49 5) ∧ (h' 64 0) = (h 64 0))
set_option maxHeartbeats 4000000 in
theorem c_Arrays_fill_AIIV_76 {u : ov_U} {F : ov_H} {z : ov_Z} {h : ov_H} (d : Nat) (hd : 0 ≤ d) (U : ov_cap u) (I : ov_I F z h) (hw : ov_kw 75557863725914323419136 F) (v : Int) (g_v : ov_g v) (p0 : v = -1) : ov_T u d ov_m14 [ov_r 76, ov_i v] z h (P_Arrays_fill_AIIV_76 F z h v) := by
  refine ov_en rfl (Nat.le_of_ble_eq_true rfl) ?_
  show ov_R u d ov_m14 0 [(0, ov_r 76), (1, ov_i v)] [] z h (P_Arrays_fill_AIIV_76 F z h v)
  refine ov_blk (ls2 := [(0, ov_r 76), (1, ov_i v), (2, ov_i 0)]) (st2 := [ov_r 76]) (pc2 := 3) b_14_0_3 rfl rfl ?_
  refine ov_alen d_14_3 (zb_76 I) (zs_76 I) (by decide) ?_
  show ov_R u d ov_m14 4 [(0, ov_r 76), (1, ov_i v), (2, ov_i 0)] [ov_i 4] z h (P_Arrays_fill_AIIV_76 F z h v)
  refine ov_blk (ls2 := [(0, ov_r 76), (1, ov_i v), (2, ov_i 0), (3, ov_i 4)]) (st2 := []) (pc2 := 5) b_14_4_1 rfl rfl ?_
  have L4 : ∀ (n1 : Nat) (x2 : Int) (z5 : ov_Z) (h6 : ov_H) (I7 : ov_I F z5 h6) (q3 : 0 ≤ x2 ∧ x2 ≤ 4 ∧ (h6 36 7) = (h 36 7) ∧ (h6 1 1) = (h 1 1) ∧ (h6 90 2) = (h 90 2) ∧ (h6 0 10) = (h 0 10) ∧ (h6 0 11) = (h 0 11) ∧ (h6 0 12) = (h 0 12) ∧ (h6 0 13) = (h 0 13) ∧ (h6 3 1) = (h 3 1) ∧ (h6 36 8) = (h 36 8) ∧ (h6 46 3) = (h 46 3) ∧ (h6 46 4) = (h 46 4) ∧ (h6 49 4) = (h 49 4) ∧ (h6 49 5) = (h 49 5) ∧ (h6 64 0) = (h 64 0)), 4 - x2 < (n1 : Int) → ov_R u d ov_m14 5 [(0, ov_r 76), (1, ov_i v), (2, ov_i x2), (3, ov_i 4)] [] z5 h6 (P_Arrays_fill_AIIV_76 F z h v) := by
    intro n1
    induction n1 with
    | zero =>
      intro x2 z5 h6 I7 q3 hn8
      exact absurd hn8 (by omega)
    | succ n1 ih2 =>
      intro x2 z5 h6 I7 q3 hn8
      refine ov_blk (ls2 := [(0, ov_r 76), (1, ov_i v), (2, ov_i x2), (3, ov_i 4)]) (st2 := [ov_i 4, ov_i x2]) (pc2 := 7) b_14_5_2 rfl rfl ?_
      refine ov_icge (tgt := 20) d_14_7 (by decide) (by omega) (by omega) (fun c9 => ?_) (fun c9 => ?_)
      · skip
        exact ov_retv (st := []) d_14_20 rfl ⟨rfl, I7, (by show (h6 36 7) = (h 36 7) ∧ (h6 1 1) = (h 1 1) ∧ (h6 90 2) = (h 90 2) ∧ (h6 0 10) = (h 0 10) ∧ (h6 0 11) = (h 0 11) ∧ (h6 0 12) = (h 0 12) ∧ (h6 0 13) = (h 0 13) ∧ (h6 3 1) = (h 3 1) ∧ (h6 36 8) = (h 36 8) ∧ (h6 46 3) = (h 46 3) ∧ (h6 46 4) = (h 46 4) ∧ (h6 49 4) = (h 49 4) ∧ (h6 49 5) = (h 49 5) ∧ (h6 64 0) = (h 64 0); omega)⟩
      · skip
        refine ov_blk (ls2 := [(0, ov_r 76), (1, ov_i v), (2, ov_i x2), (3, ov_i 4)]) (st2 := [ov_i v, ov_i x2, ov_r 76]) (pc2 := 13) b_14_10_3 rfl rfl ?_
        refine ov_iast d_14_13 (zb_76 I7) (zs_76 I7) (by omega) ?_
        have I10 := ua_76 (k := x2) (x := v) I7 (by omega) (hw 76 (by decide +kernel))
        refine ov_blk (ls2 := [(0, ov_r 76), (1, ov_i v), (2, ov_i (x2 + 1)), (3, ov_i 4)]) (st2 := []) (pc2 := 17) b_14_14_1 rfl rfl ?_
        refine ov_goto (tgt := 5) d_14_17 (by decide) ?_
        exact ih2 (x2 + 1) _ _ I10 (by show 0 ≤ (x2 + 1) ∧ (x2 + 1) ≤ 4 ∧ (h6 36 7) = (h 36 7) ∧ (h6 1 1) = (h 1 1) ∧ (h6 90 2) = (h 90 2) ∧ (h6 0 10) = (h 0 10) ∧ (h6 0 11) = (h 0 11) ∧ (h6 0 12) = (h 0 12) ∧ (h6 0 13) = (h 0 13) ∧ (h6 3 1) = (h 3 1) ∧ (h6 36 8) = (h 36 8) ∧ (h6 46 3) = (h 46 3) ∧ (h6 46 4) = (h 46 4) ∧ (h6 49 4) = (h 49 4) ∧ (h6 49 5) = (h 49 5) ∧ (h6 64 0) = (h 64 0); omega) (by omega)
  exact L4 5 0 _ _ I (by show 0 ≤ 0 ∧ 0 ≤ 4 ∧ (h 36 7) = (h 36 7) ∧ (h 1 1) = (h 1 1) ∧ (h 90 2) = (h 90 2) ∧ (h 0 10) = (h 0 10) ∧ (h 0 11) = (h 0 11) ∧ (h 0 12) = (h 0 12) ∧ (h 0 13) = (h 0 13) ∧ (h 3 1) = (h 3 1) ∧ (h 36 8) = (h 36 8) ∧ (h 46 3) = (h 46 3) ∧ (h 46 4) = (h 46 4) ∧ (h 49 4) = (h 49 4) ∧ (h 49 5) = (h 49 5) ∧ (h 64 0) = (h 64 0); omega) (by omega)
abbrev P_Arrays_fill_AIIV_39 (F : ov_H) (z : ov_Z) (h : ov_H) (v : Int) : Option ov_V → ov_Z → ov_H → Prop := fun r0 z' h' => r0 = none ∧ ov_I F z' h' ∧ ((h' 36 7) = (h 36 7) ∧ (h' 1 1) = (h 1 1) ∧ (h' 90 2) = (h 90 2) ∧ (h' 0 10) = (h 0 10) ∧ (h' 0 11) = (h 0 11) ∧ (h' 0 12) = (h 0 12) ∧ (h' 0 13) = (h 0 13) ∧ (h' 3 1) = (h 3 1) ∧ (h' 36 8) = (h 36 8) ∧ (h' 46 3) = (h 46 3) ∧ (h' 46 4) = (h 46 4) ∧ (h' 49 4) = (h 49 4) ∧ (h' 49 5) = (h 49 5) ∧ (h' 64 0) = (h 64 0) ∧ (h' 76 0) = (h 76 0))
set_option maxHeartbeats 4000000 in
theorem c_Arrays_fill_AIIV_39 {u : ov_U} {F : ov_H} {z : ov_Z} {h : ov_H} (d : Nat) (hd : 0 ≤ d) (U : ov_cap u) (I : ov_I F z h) (v : Int) (g_v : ov_g v) (p0 : (-2147483648) ≤ v ∧ v ≤ 2147483647) : ov_T u d ov_m14 [ov_r 39, ov_i v] z h (P_Arrays_fill_AIIV_39 F z h v) := by
  refine ov_en rfl (Nat.le_of_ble_eq_true rfl) ?_
  show ov_R u d ov_m14 0 [(0, ov_r 39), (1, ov_i v)] [] z h (P_Arrays_fill_AIIV_39 F z h v)
  refine ov_blk (ls2 := [(0, ov_r 39), (1, ov_i v), (2, ov_i 0)]) (st2 := [ov_r 39]) (pc2 := 3) b_14_0_3 rfl rfl ?_
  refine ov_alen d_14_3 (zb_39 I) (zs_39 I) (by decide) ?_
  show ov_R u d ov_m14 4 [(0, ov_r 39), (1, ov_i v), (2, ov_i 0)] [ov_i 54] z h (P_Arrays_fill_AIIV_39 F z h v)
  refine ov_blk (ls2 := [(0, ov_r 39), (1, ov_i v), (2, ov_i 0), (3, ov_i 54)]) (st2 := []) (pc2 := 5) b_14_4_1 rfl rfl ?_
  have L4 : ∀ (n1 : Nat) (x2 : Int) (z5 : ov_Z) (h6 : ov_H) (I7 : ov_I F z5 h6) (q3 : 0 ≤ x2 ∧ x2 ≤ 54 ∧ (h6 36 7) = (h 36 7) ∧ (h6 1 1) = (h 1 1) ∧ (h6 90 2) = (h 90 2) ∧ (h6 0 10) = (h 0 10) ∧ (h6 0 11) = (h 0 11) ∧ (h6 0 12) = (h 0 12) ∧ (h6 0 13) = (h 0 13) ∧ (h6 3 1) = (h 3 1) ∧ (h6 36 8) = (h 36 8) ∧ (h6 46 3) = (h 46 3) ∧ (h6 46 4) = (h 46 4) ∧ (h6 49 4) = (h 49 4) ∧ (h6 49 5) = (h 49 5) ∧ (h6 64 0) = (h 64 0) ∧ (h6 76 0) = (h 76 0)), 54 - x2 < (n1 : Int) → ov_R u d ov_m14 5 [(0, ov_r 39), (1, ov_i v), (2, ov_i x2), (3, ov_i 54)] [] z5 h6 (P_Arrays_fill_AIIV_39 F z h v) := by
    intro n1
    induction n1 with
    | zero =>
      intro x2 z5 h6 I7 q3 hn8
      exact absurd hn8 (by omega)
    | succ n1 ih2 =>
      intro x2 z5 h6 I7 q3 hn8
      refine ov_blk (ls2 := [(0, ov_r 39), (1, ov_i v), (2, ov_i x2), (3, ov_i 54)]) (st2 := [ov_i 54, ov_i x2]) (pc2 := 7) b_14_5_2 rfl rfl ?_
      refine ov_icge (tgt := 20) d_14_7 (by decide) (by omega) (by omega) (fun c9 => ?_) (fun c9 => ?_)
      · skip
        exact ov_retv (st := []) d_14_20 rfl ⟨rfl, I7, (by show (h6 36 7) = (h 36 7) ∧ (h6 1 1) = (h 1 1) ∧ (h6 90 2) = (h 90 2) ∧ (h6 0 10) = (h 0 10) ∧ (h6 0 11) = (h 0 11) ∧ (h6 0 12) = (h 0 12) ∧ (h6 0 13) = (h 0 13) ∧ (h6 3 1) = (h 3 1) ∧ (h6 36 8) = (h 36 8) ∧ (h6 46 3) = (h 46 3) ∧ (h6 46 4) = (h 46 4) ∧ (h6 49 4) = (h 49 4) ∧ (h6 49 5) = (h 49 5) ∧ (h6 64 0) = (h 64 0) ∧ (h6 76 0) = (h 76 0); omega)⟩
      · skip
        refine ov_blk (ls2 := [(0, ov_r 39), (1, ov_i v), (2, ov_i x2), (3, ov_i 54)]) (st2 := [ov_i v, ov_i x2, ov_r 39]) (pc2 := 13) b_14_10_3 rfl rfl ?_
        refine ov_iast d_14_13 (zb_39 I7) (zs_39 I7) (by omega) ?_
        have I10 := ua_39 (k := x2) (x := v) I7 (by omega)
        refine ov_blk (ls2 := [(0, ov_r 39), (1, ov_i v), (2, ov_i (x2 + 1)), (3, ov_i 54)]) (st2 := []) (pc2 := 17) b_14_14_1 rfl rfl ?_
        refine ov_goto (tgt := 5) d_14_17 (by decide) ?_
        exact ih2 (x2 + 1) _ _ I10 (by show 0 ≤ (x2 + 1) ∧ (x2 + 1) ≤ 54 ∧ (h6 36 7) = (h 36 7) ∧ (h6 1 1) = (h 1 1) ∧ (h6 90 2) = (h 90 2) ∧ (h6 0 10) = (h 0 10) ∧ (h6 0 11) = (h 0 11) ∧ (h6 0 12) = (h 0 12) ∧ (h6 0 13) = (h 0 13) ∧ (h6 3 1) = (h 3 1) ∧ (h6 36 8) = (h 36 8) ∧ (h6 46 3) = (h 46 3) ∧ (h6 46 4) = (h 46 4) ∧ (h6 49 4) = (h 49 4) ∧ (h6 49 5) = (h 49 5) ∧ (h6 64 0) = (h 64 0) ∧ (h6 76 0) = (h 76 0); omega) (by omega)
  exact L4 55 0 _ _ I (by show 0 ≤ 0 ∧ 0 ≤ 54 ∧ (h 36 7) = (h 36 7) ∧ (h 1 1) = (h 1 1) ∧ (h 90 2) = (h 90 2) ∧ (h 0 10) = (h 0 10) ∧ (h 0 11) = (h 0 11) ∧ (h 0 12) = (h 0 12) ∧ (h 0 13) = (h 0 13) ∧ (h 3 1) = (h 3 1) ∧ (h 36 8) = (h 36 8) ∧ (h 46 3) = (h 46 3) ∧ (h 46 4) = (h 46 4) ∧ (h 49 4) = (h 49 4) ∧ (h 49 5) = (h 49 5) ∧ (h 64 0) = (h 64 0) ∧ (h 76 0) = (h 76 0); omega) (by omega)
abbrev P_Arrays_fill_AIIV_42 (F : ov_H) (z : ov_Z) (h : ov_H) (v : Int) : Option ov_V → ov_Z → ov_H → Prop := fun r0 z' h' => r0 = none ∧ ov_I F z' h' ∧ ((h' 36 7) = (h 36 7) ∧ (h' 1 1) = (h 1 1) ∧ (h' 90 2) = (h 90 2) ∧ (h' 0 10) = (h 0 10) ∧ (h' 0 11) = (h 0 11) ∧ (h' 0 12) = (h 0 12) ∧ (h' 0 13) = (h 0 13) ∧ (h' 3 1) = (h 3 1) ∧ (h' 36 8) = (h 36 8) ∧ (h' 46 3) = (h 46 3) ∧ (h' 46 4) = (h 46 4) ∧ (h' 49 4) = (h 49 4) ∧ (h' 49 5) = (h 49 5) ∧ (h' 64 0) = (h 64 0) ∧ (h' 76 0) = (h 76 0))
set_option maxHeartbeats 4000000 in
theorem c_Arrays_fill_AIIV_42 {u : ov_U} {F : ov_H} {z : ov_Z} {h : ov_H} (d : Nat) (hd : 0 ≤ d) (U : ov_cap u) (I : ov_I F z h) (v : Int) (g_v : ov_g v) (p0 : (-2147483648) ≤ v ∧ v ≤ 2147483647) : ov_T u d ov_m14 [ov_r 42, ov_i v] z h (P_Arrays_fill_AIIV_42 F z h v) := by
  refine ov_en rfl (Nat.le_of_ble_eq_true rfl) ?_
  show ov_R u d ov_m14 0 [(0, ov_r 42), (1, ov_i v)] [] z h (P_Arrays_fill_AIIV_42 F z h v)
  refine ov_blk (ls2 := [(0, ov_r 42), (1, ov_i v), (2, ov_i 0)]) (st2 := [ov_r 42]) (pc2 := 3) b_14_0_3 rfl rfl ?_
  refine ov_alen d_14_3 (zb_42 I) (zs_42 I) (by decide) ?_
  show ov_R u d ov_m14 4 [(0, ov_r 42), (1, ov_i v), (2, ov_i 0)] [ov_i 54] z h (P_Arrays_fill_AIIV_42 F z h v)
  refine ov_blk (ls2 := [(0, ov_r 42), (1, ov_i v), (2, ov_i 0), (3, ov_i 54)]) (st2 := []) (pc2 := 5) b_14_4_1 rfl rfl ?_
  have L4 : ∀ (n1 : Nat) (x2 : Int) (z5 : ov_Z) (h6 : ov_H) (I7 : ov_I F z5 h6) (q3 : 0 ≤ x2 ∧ x2 ≤ 54 ∧ (h6 36 7) = (h 36 7) ∧ (h6 1 1) = (h 1 1) ∧ (h6 90 2) = (h 90 2) ∧ (h6 0 10) = (h 0 10) ∧ (h6 0 11) = (h 0 11) ∧ (h6 0 12) = (h 0 12) ∧ (h6 0 13) = (h 0 13) ∧ (h6 3 1) = (h 3 1) ∧ (h6 36 8) = (h 36 8) ∧ (h6 46 3) = (h 46 3) ∧ (h6 46 4) = (h 46 4) ∧ (h6 49 4) = (h 49 4) ∧ (h6 49 5) = (h 49 5) ∧ (h6 64 0) = (h 64 0) ∧ (h6 76 0) = (h 76 0)), 54 - x2 < (n1 : Int) → ov_R u d ov_m14 5 [(0, ov_r 42), (1, ov_i v), (2, ov_i x2), (3, ov_i 54)] [] z5 h6 (P_Arrays_fill_AIIV_42 F z h v) := by
    intro n1
    induction n1 with
    | zero =>
      intro x2 z5 h6 I7 q3 hn8
      exact absurd hn8 (by omega)
    | succ n1 ih2 =>
      intro x2 z5 h6 I7 q3 hn8
      refine ov_blk (ls2 := [(0, ov_r 42), (1, ov_i v), (2, ov_i x2), (3, ov_i 54)]) (st2 := [ov_i 54, ov_i x2]) (pc2 := 7) b_14_5_2 rfl rfl ?_
      refine ov_icge (tgt := 20) d_14_7 (by decide) (by omega) (by omega) (fun c9 => ?_) (fun c9 => ?_)
      · skip
        exact ov_retv (st := []) d_14_20 rfl ⟨rfl, I7, (by show (h6 36 7) = (h 36 7) ∧ (h6 1 1) = (h 1 1) ∧ (h6 90 2) = (h 90 2) ∧ (h6 0 10) = (h 0 10) ∧ (h6 0 11) = (h 0 11) ∧ (h6 0 12) = (h 0 12) ∧ (h6 0 13) = (h 0 13) ∧ (h6 3 1) = (h 3 1) ∧ (h6 36 8) = (h 36 8) ∧ (h6 46 3) = (h 46 3) ∧ (h6 46 4) = (h 46 4) ∧ (h6 49 4) = (h 49 4) ∧ (h6 49 5) = (h 49 5) ∧ (h6 64 0) = (h 64 0) ∧ (h6 76 0) = (h 76 0); omega)⟩
      · skip
        refine ov_blk (ls2 := [(0, ov_r 42), (1, ov_i v), (2, ov_i x2), (3, ov_i 54)]) (st2 := [ov_i v, ov_i x2, ov_r 42]) (pc2 := 13) b_14_10_3 rfl rfl ?_
        refine ov_iast d_14_13 (zb_42 I7) (zs_42 I7) (by omega) ?_
        have I10 := ua_42 (k := x2) (x := v) I7 (by omega)
        refine ov_blk (ls2 := [(0, ov_r 42), (1, ov_i v), (2, ov_i (x2 + 1)), (3, ov_i 54)]) (st2 := []) (pc2 := 17) b_14_14_1 rfl rfl ?_
        refine ov_goto (tgt := 5) d_14_17 (by decide) ?_
        exact ih2 (x2 + 1) _ _ I10 (by show 0 ≤ (x2 + 1) ∧ (x2 + 1) ≤ 54 ∧ (h6 36 7) = (h 36 7) ∧ (h6 1 1) = (h 1 1) ∧ (h6 90 2) = (h 90 2) ∧ (h6 0 10) = (h 0 10) ∧ (h6 0 11) = (h 0 11) ∧ (h6 0 12) = (h 0 12) ∧ (h6 0 13) = (h 0 13) ∧ (h6 3 1) = (h 3 1) ∧ (h6 36 8) = (h 36 8) ∧ (h6 46 3) = (h 46 3) ∧ (h6 46 4) = (h 46 4) ∧ (h6 49 4) = (h 49 4) ∧ (h6 49 5) = (h 49 5) ∧ (h6 64 0) = (h 64 0) ∧ (h6 76 0) = (h 76 0); omega) (by omega)
  exact L4 55 0 _ _ I (by show 0 ≤ 0 ∧ 0 ≤ 54 ∧ (h 36 7) = (h 36 7) ∧ (h 1 1) = (h 1 1) ∧ (h 90 2) = (h 90 2) ∧ (h 0 10) = (h 0 10) ∧ (h 0 11) = (h 0 11) ∧ (h 0 12) = (h 0 12) ∧ (h 0 13) = (h 0 13) ∧ (h 3 1) = (h 3 1) ∧ (h 36 8) = (h 36 8) ∧ (h 46 3) = (h 46 3) ∧ (h 46 4) = (h 46 4) ∧ (h 49 4) = (h 49 4) ∧ (h 49 5) = (h 49 5) ∧ (h 64 0) = (h 64 0) ∧ (h 76 0) = (h 76 0); omega) (by omega)
abbrev P_Arrays_fill_AIIV_53 (F : ov_H) (z : ov_Z) (h : ov_H) (v : Int) : Option ov_V → ov_Z → ov_H → Prop := fun r0 z' h' => r0 = none ∧ ov_I F z' h' ∧ ((h' 36 7) = (h 36 7) ∧ (h' 1 1) = (h 1 1) ∧ (h' 90 2) = (h 90 2) ∧ (h' 0 10) = (h 0 10) ∧ (h' 0 11) = (h 0 11) ∧ (h' 0 12) = (h 0 12) ∧ (h' 0 13) = (h 0 13) ∧ (h' 3 1) = (h 3 1) ∧ (h' 36 8) = (h 36 8) ∧ (h' 46 3) = (h 46 3) ∧ (h' 46 4) = (h 46 4) ∧ (h' 49 4) = (h 49 4) ∧ (h' 49 5) = (h 49 5) ∧ (h' 64 0) = (h 64 0) ∧ (h' 76 0) = (h 76 0))
set_option maxHeartbeats 4000000 in
theorem c_Arrays_fill_AIIV_53 {u : ov_U} {F : ov_H} {z : ov_Z} {h : ov_H} (d : Nat) (hd : 0 ≤ d) (U : ov_cap u) (I : ov_I F z h) (v : Int) (g_v : ov_g v) (p0 : (-2147483648) ≤ v ∧ v ≤ 2147483647) : ov_T u d ov_m14 [ov_r 53, ov_i v] z h (P_Arrays_fill_AIIV_53 F z h v) := by
  refine ov_en rfl (Nat.le_of_ble_eq_true rfl) ?_
  show ov_R u d ov_m14 0 [(0, ov_r 53), (1, ov_i v)] [] z h (P_Arrays_fill_AIIV_53 F z h v)
  refine ov_blk (ls2 := [(0, ov_r 53), (1, ov_i v), (2, ov_i 0)]) (st2 := [ov_r 53]) (pc2 := 3) b_14_0_3 rfl rfl ?_
  refine ov_alen d_14_3 (zb_53 I) (zs_53 I) (by decide) ?_
  show ov_R u d ov_m14 4 [(0, ov_r 53), (1, ov_i v), (2, ov_i 0)] [ov_i 54] z h (P_Arrays_fill_AIIV_53 F z h v)
  refine ov_blk (ls2 := [(0, ov_r 53), (1, ov_i v), (2, ov_i 0), (3, ov_i 54)]) (st2 := []) (pc2 := 5) b_14_4_1 rfl rfl ?_
  have L4 : ∀ (n1 : Nat) (x2 : Int) (z5 : ov_Z) (h6 : ov_H) (I7 : ov_I F z5 h6) (q3 : 0 ≤ x2 ∧ x2 ≤ 54 ∧ (h6 36 7) = (h 36 7) ∧ (h6 1 1) = (h 1 1) ∧ (h6 90 2) = (h 90 2) ∧ (h6 0 10) = (h 0 10) ∧ (h6 0 11) = (h 0 11) ∧ (h6 0 12) = (h 0 12) ∧ (h6 0 13) = (h 0 13) ∧ (h6 3 1) = (h 3 1) ∧ (h6 36 8) = (h 36 8) ∧ (h6 46 3) = (h 46 3) ∧ (h6 46 4) = (h 46 4) ∧ (h6 49 4) = (h 49 4) ∧ (h6 49 5) = (h 49 5) ∧ (h6 64 0) = (h 64 0) ∧ (h6 76 0) = (h 76 0)), 54 - x2 < (n1 : Int) → ov_R u d ov_m14 5 [(0, ov_r 53), (1, ov_i v), (2, ov_i x2), (3, ov_i 54)] [] z5 h6 (P_Arrays_fill_AIIV_53 F z h v) := by
    intro n1
    induction n1 with
    | zero =>
      intro x2 z5 h6 I7 q3 hn8
      exact absurd hn8 (by omega)
    | succ n1 ih2 =>
      intro x2 z5 h6 I7 q3 hn8
      refine ov_blk (ls2 := [(0, ov_r 53), (1, ov_i v), (2, ov_i x2), (3, ov_i 54)]) (st2 := [ov_i 54, ov_i x2]) (pc2 := 7) b_14_5_2 rfl rfl ?_
      refine ov_icge (tgt := 20) d_14_7 (by decide) (by omega) (by omega) (fun c9 => ?_) (fun c9 => ?_)
      · skip
        exact ov_retv (st := []) d_14_20 rfl ⟨rfl, I7, (by show (h6 36 7) = (h 36 7) ∧ (h6 1 1) = (h 1 1) ∧ (h6 90 2) = (h 90 2) ∧ (h6 0 10) = (h 0 10) ∧ (h6 0 11) = (h 0 11) ∧ (h6 0 12) = (h 0 12) ∧ (h6 0 13) = (h 0 13) ∧ (h6 3 1) = (h 3 1) ∧ (h6 36 8) = (h 36 8) ∧ (h6 46 3) = (h 46 3) ∧ (h6 46 4) = (h 46 4) ∧ (h6 49 4) = (h 49 4) ∧ (h6 49 5) = (h 49 5) ∧ (h6 64 0) = (h 64 0) ∧ (h6 76 0) = (h 76 0); omega)⟩
      · skip
        refine ov_blk (ls2 := [(0, ov_r 53), (1, ov_i v), (2, ov_i x2), (3, ov_i 54)]) (st2 := [ov_i v, ov_i x2, ov_r 53]) (pc2 := 13) b_14_10_3 rfl rfl ?_
        refine ov_iast d_14_13 (zb_53 I7) (zs_53 I7) (by omega) ?_
        have I10 := ua_53 (k := x2) (x := v) I7 (by omega)
        refine ov_blk (ls2 := [(0, ov_r 53), (1, ov_i v), (2, ov_i (x2 + 1)), (3, ov_i 54)]) (st2 := []) (pc2 := 17) b_14_14_1 rfl rfl ?_
        refine ov_goto (tgt := 5) d_14_17 (by decide) ?_
        exact ih2 (x2 + 1) _ _ I10 (by show 0 ≤ (x2 + 1) ∧ (x2 + 1) ≤ 54 ∧ (h6 36 7) = (h 36 7) ∧ (h6 1 1) = (h 1 1) ∧ (h6 90 2) = (h 90 2) ∧ (h6 0 10) = (h 0 10) ∧ (h6 0 11) = (h 0 11) ∧ (h6 0 12) = (h 0 12) ∧ (h6 0 13) = (h 0 13) ∧ (h6 3 1) = (h 3 1) ∧ (h6 36 8) = (h 36 8) ∧ (h6 46 3) = (h 46 3) ∧ (h6 46 4) = (h 46 4) ∧ (h6 49 4) = (h 49 4) ∧ (h6 49 5) = (h 49 5) ∧ (h6 64 0) = (h 64 0) ∧ (h6 76 0) = (h 76 0); omega) (by omega)
  exact L4 55 0 _ _ I (by show 0 ≤ 0 ∧ 0 ≤ 54 ∧ (h 36 7) = (h 36 7) ∧ (h 1 1) = (h 1 1) ∧ (h 90 2) = (h 90 2) ∧ (h 0 10) = (h 0 10) ∧ (h 0 11) = (h 0 11) ∧ (h 0 12) = (h 0 12) ∧ (h 0 13) = (h 0 13) ∧ (h 3 1) = (h 3 1) ∧ (h 36 8) = (h 36 8) ∧ (h 46 3) = (h 46 3) ∧ (h 46 4) = (h 46 4) ∧ (h 49 4) = (h 49 4) ∧ (h 49 5) = (h 49 5) ∧ (h 64 0) = (h 64 0) ∧ (h 76 0) = (h 76 0); omega) (by omega)
abbrev P_Arrays_fill_AIIV_47 (F : ov_H) (z : ov_Z) (h : ov_H) (v : Int) : Option ov_V → ov_Z → ov_H → Prop := fun r0 z' h' => r0 = none ∧ ov_I F z' h' ∧ ((h' 36 7) = (h 36 7) ∧ (h' 1 1) = (h 1 1) ∧ (h' 90 2) = (h 90 2) ∧ (h' 0 10) = (h 0 10) ∧ (h' 0 11) = (h 0 11) ∧ (h' 0 12) = (h 0 12) ∧ (h' 0 13) = (h 0 13) ∧ (h' 3 1) = (h 3 1) ∧ (h' 36 8) = (h 36 8) ∧ (h' 46 3) = (h 46 3) ∧ (h' 46 4) = (h 46 4) ∧ (h' 49 4) = (h 49 4) ∧ (h' 49 5) = (h 49 5) ∧ (h' 64 0) = (h 64 0) ∧ (h' 76 0) = (h 76 0))
set_option maxHeartbeats 4000000 in
theorem c_Arrays_fill_AIIV_47 {u : ov_U} {F : ov_H} {z : ov_Z} {h : ov_H} (d : Nat) (hd : 0 ≤ d) (U : ov_cap u) (I : ov_I F z h) (v : Int) (g_v : ov_g v) (p0 : (-2147483648) ≤ v ∧ v ≤ 2147483647) : ov_T u d ov_m14 [ov_r 47, ov_i v] z h (P_Arrays_fill_AIIV_47 F z h v) := by
  refine ov_en rfl (Nat.le_of_ble_eq_true rfl) ?_
  show ov_R u d ov_m14 0 [(0, ov_r 47), (1, ov_i v)] [] z h (P_Arrays_fill_AIIV_47 F z h v)
  refine ov_blk (ls2 := [(0, ov_r 47), (1, ov_i v), (2, ov_i 0)]) (st2 := [ov_r 47]) (pc2 := 3) b_14_0_3 rfl rfl ?_
  refine ov_alen d_14_3 (zb_47 I) (zs_47 I) (by decide) ?_
  show ov_R u d ov_m14 4 [(0, ov_r 47), (1, ov_i v), (2, ov_i 0)] [ov_i 54] z h (P_Arrays_fill_AIIV_47 F z h v)
  refine ov_blk (ls2 := [(0, ov_r 47), (1, ov_i v), (2, ov_i 0), (3, ov_i 54)]) (st2 := []) (pc2 := 5) b_14_4_1 rfl rfl ?_
  have L4 : ∀ (n1 : Nat) (x2 : Int) (z5 : ov_Z) (h6 : ov_H) (I7 : ov_I F z5 h6) (q3 : 0 ≤ x2 ∧ x2 ≤ 54 ∧ (h6 36 7) = (h 36 7) ∧ (h6 1 1) = (h 1 1) ∧ (h6 90 2) = (h 90 2) ∧ (h6 0 10) = (h 0 10) ∧ (h6 0 11) = (h 0 11) ∧ (h6 0 12) = (h 0 12) ∧ (h6 0 13) = (h 0 13) ∧ (h6 3 1) = (h 3 1) ∧ (h6 36 8) = (h 36 8) ∧ (h6 46 3) = (h 46 3) ∧ (h6 46 4) = (h 46 4) ∧ (h6 49 4) = (h 49 4) ∧ (h6 49 5) = (h 49 5) ∧ (h6 64 0) = (h 64 0) ∧ (h6 76 0) = (h 76 0)), 54 - x2 < (n1 : Int) → ov_R u d ov_m14 5 [(0, ov_r 47), (1, ov_i v), (2, ov_i x2), (3, ov_i 54)] [] z5 h6 (P_Arrays_fill_AIIV_47 F z h v) := by
    intro n1
    induction n1 with
    | zero =>
      intro x2 z5 h6 I7 q3 hn8
      exact absurd hn8 (by omega)
    | succ n1 ih2 =>
      intro x2 z5 h6 I7 q3 hn8
      refine ov_blk (ls2 := [(0, ov_r 47), (1, ov_i v), (2, ov_i x2), (3, ov_i 54)]) (st2 := [ov_i 54, ov_i x2]) (pc2 := 7) b_14_5_2 rfl rfl ?_
      refine ov_icge (tgt := 20) d_14_7 (by decide) (by omega) (by omega) (fun c9 => ?_) (fun c9 => ?_)
      · skip
        exact ov_retv (st := []) d_14_20 rfl ⟨rfl, I7, (by show (h6 36 7) = (h 36 7) ∧ (h6 1 1) = (h 1 1) ∧ (h6 90 2) = (h 90 2) ∧ (h6 0 10) = (h 0 10) ∧ (h6 0 11) = (h 0 11) ∧ (h6 0 12) = (h 0 12) ∧ (h6 0 13) = (h 0 13) ∧ (h6 3 1) = (h 3 1) ∧ (h6 36 8) = (h 36 8) ∧ (h6 46 3) = (h 46 3) ∧ (h6 46 4) = (h 46 4) ∧ (h6 49 4) = (h 49 4) ∧ (h6 49 5) = (h 49 5) ∧ (h6 64 0) = (h 64 0) ∧ (h6 76 0) = (h 76 0); omega)⟩
      · skip
        refine ov_blk (ls2 := [(0, ov_r 47), (1, ov_i v), (2, ov_i x2), (3, ov_i 54)]) (st2 := [ov_i v, ov_i x2, ov_r 47]) (pc2 := 13) b_14_10_3 rfl rfl ?_
        refine ov_iast d_14_13 (zb_47 I7) (zs_47 I7) (by omega) ?_
        have I10 := ua_47 (k := x2) (x := v) I7 (by omega)
        refine ov_blk (ls2 := [(0, ov_r 47), (1, ov_i v), (2, ov_i (x2 + 1)), (3, ov_i 54)]) (st2 := []) (pc2 := 17) b_14_14_1 rfl rfl ?_
        refine ov_goto (tgt := 5) d_14_17 (by decide) ?_
        exact ih2 (x2 + 1) _ _ I10 (by show 0 ≤ (x2 + 1) ∧ (x2 + 1) ≤ 54 ∧ (h6 36 7) = (h 36 7) ∧ (h6 1 1) = (h 1 1) ∧ (h6 90 2) = (h 90 2) ∧ (h6 0 10) = (h 0 10) ∧ (h6 0 11) = (h 0 11) ∧ (h6 0 12) = (h 0 12) ∧ (h6 0 13) = (h 0 13) ∧ (h6 3 1) = (h 3 1) ∧ (h6 36 8) = (h 36 8) ∧ (h6 46 3) = (h 46 3) ∧ (h6 46 4) = (h 46 4) ∧ (h6 49 4) = (h 49 4) ∧ (h6 49 5) = (h 49 5) ∧ (h6 64 0) = (h 64 0) ∧ (h6 76 0) = (h 76 0); omega) (by omega)
  exact L4 55 0 _ _ I (by show 0 ≤ 0 ∧ 0 ≤ 54 ∧ (h 36 7) = (h 36 7) ∧ (h 1 1) = (h 1 1) ∧ (h 90 2) = (h 90 2) ∧ (h 0 10) = (h 0 10) ∧ (h 0 11) = (h 0 11) ∧ (h 0 12) = (h 0 12) ∧ (h 0 13) = (h 0 13) ∧ (h 3 1) = (h 3 1) ∧ (h 36 8) = (h 36 8) ∧ (h 46 3) = (h 46 3) ∧ (h 46 4) = (h 46 4) ∧ (h 49 4) = (h 49 4) ∧ (h 49 5) = (h 49 5) ∧ (h 64 0) = (h 64 0) ∧ (h 76 0) = (h 76 0); omega) (by omega)
abbrev P_Arrays_fill_AIIV_48 (F : ov_H) (z : ov_Z) (h : ov_H) (v : Int) : Option ov_V → ov_Z → ov_H → Prop := fun r0 z' h' => r0 = none ∧ ov_I F z' h' ∧ ((h' 36 7) = (h 36 7) ∧ (h' 1 1) = (h 1 1) ∧ (h' 90 2) = (h 90 2) ∧ (h' 0 10) = (h 0 10) ∧ (h' 0 11) = (h 0 11) ∧ (h' 0 12) = (h 0 12) ∧ (h' 0 13) = (h 0 13) ∧ (h' 3 1) = (h 3 1) ∧ (h' 36 8) = (h 36 8) ∧ (h' 46 3) = (h 46 3) ∧ (h' 46 4) = (h 46 4) ∧ (h' 49 4) = (h 49 4) ∧ (h' 49 5) = (h 49 5) ∧ (h' 64 0) = (h 64 0) ∧ (h' 76 0) = (h 76 0))
set_option maxHeartbeats 4000000 in
theorem c_Arrays_fill_AIIV_48 {u : ov_U} {F : ov_H} {z : ov_Z} {h : ov_H} (d : Nat) (hd : 0 ≤ d) (U : ov_cap u) (I : ov_I F z h) (v : Int) (g_v : ov_g v) (p0 : (-2147483648) ≤ v ∧ v ≤ 2147483647) : ov_T u d ov_m14 [ov_r 48, ov_i v] z h (P_Arrays_fill_AIIV_48 F z h v) := by
  refine ov_en rfl (Nat.le_of_ble_eq_true rfl) ?_
  show ov_R u d ov_m14 0 [(0, ov_r 48), (1, ov_i v)] [] z h (P_Arrays_fill_AIIV_48 F z h v)
  refine ov_blk (ls2 := [(0, ov_r 48), (1, ov_i v), (2, ov_i 0)]) (st2 := [ov_r 48]) (pc2 := 3) b_14_0_3 rfl rfl ?_
  refine ov_alen d_14_3 (zb_48 I) (zs_48 I) (by decide) ?_
  show ov_R u d ov_m14 4 [(0, ov_r 48), (1, ov_i v), (2, ov_i 0)] [ov_i 1404] z h (P_Arrays_fill_AIIV_48 F z h v)
  refine ov_blk (ls2 := [(0, ov_r 48), (1, ov_i v), (2, ov_i 0), (3, ov_i 1404)]) (st2 := []) (pc2 := 5) b_14_4_1 rfl rfl ?_
  have L4 : ∀ (n1 : Nat) (x2 : Int) (z5 : ov_Z) (h6 : ov_H) (I7 : ov_I F z5 h6) (q3 : 0 ≤ x2 ∧ x2 ≤ 1404 ∧ (h6 36 7) = (h 36 7) ∧ (h6 1 1) = (h 1 1) ∧ (h6 90 2) = (h 90 2) ∧ (h6 0 10) = (h 0 10) ∧ (h6 0 11) = (h 0 11) ∧ (h6 0 12) = (h 0 12) ∧ (h6 0 13) = (h 0 13) ∧ (h6 3 1) = (h 3 1) ∧ (h6 36 8) = (h 36 8) ∧ (h6 46 3) = (h 46 3) ∧ (h6 46 4) = (h 46 4) ∧ (h6 49 4) = (h 49 4) ∧ (h6 49 5) = (h 49 5) ∧ (h6 64 0) = (h 64 0) ∧ (h6 76 0) = (h 76 0)), 1404 - x2 < (n1 : Int) → ov_R u d ov_m14 5 [(0, ov_r 48), (1, ov_i v), (2, ov_i x2), (3, ov_i 1404)] [] z5 h6 (P_Arrays_fill_AIIV_48 F z h v) := by
    intro n1
    induction n1 with
    | zero =>
      intro x2 z5 h6 I7 q3 hn8
      exact absurd hn8 (by omega)
    | succ n1 ih2 =>
      intro x2 z5 h6 I7 q3 hn8
      refine ov_blk (ls2 := [(0, ov_r 48), (1, ov_i v), (2, ov_i x2), (3, ov_i 1404)]) (st2 := [ov_i 1404, ov_i x2]) (pc2 := 7) b_14_5_2 rfl rfl ?_
      refine ov_icge (tgt := 20) d_14_7 (by decide) (by omega) (by omega) (fun c9 => ?_) (fun c9 => ?_)
      · skip
        exact ov_retv (st := []) d_14_20 rfl ⟨rfl, I7, (by show (h6 36 7) = (h 36 7) ∧ (h6 1 1) = (h 1 1) ∧ (h6 90 2) = (h 90 2) ∧ (h6 0 10) = (h 0 10) ∧ (h6 0 11) = (h 0 11) ∧ (h6 0 12) = (h 0 12) ∧ (h6 0 13) = (h 0 13) ∧ (h6 3 1) = (h 3 1) ∧ (h6 36 8) = (h 36 8) ∧ (h6 46 3) = (h 46 3) ∧ (h6 46 4) = (h 46 4) ∧ (h6 49 4) = (h 49 4) ∧ (h6 49 5) = (h 49 5) ∧ (h6 64 0) = (h 64 0) ∧ (h6 76 0) = (h 76 0); omega)⟩
      · skip
        refine ov_blk (ls2 := [(0, ov_r 48), (1, ov_i v), (2, ov_i x2), (3, ov_i 1404)]) (st2 := [ov_i v, ov_i x2, ov_r 48]) (pc2 := 13) b_14_10_3 rfl rfl ?_
        refine ov_iast d_14_13 (zb_48 I7) (zs_48 I7) (by omega) ?_
        have I10 := ua_48 (k := x2) (x := v) I7 (by omega)
        refine ov_blk (ls2 := [(0, ov_r 48), (1, ov_i v), (2, ov_i (x2 + 1)), (3, ov_i 1404)]) (st2 := []) (pc2 := 17) b_14_14_1 rfl rfl ?_
        refine ov_goto (tgt := 5) d_14_17 (by decide) ?_
        exact ih2 (x2 + 1) _ _ I10 (by show 0 ≤ (x2 + 1) ∧ (x2 + 1) ≤ 1404 ∧ (h6 36 7) = (h 36 7) ∧ (h6 1 1) = (h 1 1) ∧ (h6 90 2) = (h 90 2) ∧ (h6 0 10) = (h 0 10) ∧ (h6 0 11) = (h 0 11) ∧ (h6 0 12) = (h 0 12) ∧ (h6 0 13) = (h 0 13) ∧ (h6 3 1) = (h 3 1) ∧ (h6 36 8) = (h 36 8) ∧ (h6 46 3) = (h 46 3) ∧ (h6 46 4) = (h 46 4) ∧ (h6 49 4) = (h 49 4) ∧ (h6 49 5) = (h 49 5) ∧ (h6 64 0) = (h 64 0) ∧ (h6 76 0) = (h 76 0); omega) (by omega)
  exact L4 1405 0 _ _ I (by show 0 ≤ 0 ∧ 0 ≤ 1404 ∧ (h 36 7) = (h 36 7) ∧ (h 1 1) = (h 1 1) ∧ (h 90 2) = (h 90 2) ∧ (h 0 10) = (h 0 10) ∧ (h 0 11) = (h 0 11) ∧ (h 0 12) = (h 0 12) ∧ (h 0 13) = (h 0 13) ∧ (h 3 1) = (h 3 1) ∧ (h 36 8) = (h 36 8) ∧ (h 46 3) = (h 46 3) ∧ (h 46 4) = (h 46 4) ∧ (h 49 4) = (h 49 4) ∧ (h 49 5) = (h 49 5) ∧ (h 64 0) = (h 64 0) ∧ (h 76 0) = (h 76 0); omega) (by omega)

theorem b_99_51_2 : ov_ds ov_m99.2.1 51 [.isub, .aload_n 0] = true := by decide +kernel
theorem b_117_11_2 : ov_ds ov_m117.2.1 11 [.iadd, .aload_n 0] = true := by decide +kernel
theorem d_113_4 : decode ov_m113.2.1 4 = .ok (.invokevirtual 59, 3) := by decide +kernel
theorem d_113_12 : decode ov_m113.2.1 12 = .ok (.if_icmp .ne 6, 3) := by decide +kernel
theorem d_113_17 : decode ov_m113.2.1 17 = .ok (.ireturn, 1) := by decide +kernel
theorem d_113_31 : decode ov_m113.2.1 31 = .ok (.if_icmp .ge 76, 3) := by decide +kernel
theorem d_113_37 : decode ov_m113.2.1 37 = .ok (.getfield 18, 3) := by decide +kernel
theorem d_113_40 : decode ov_m113.2.1 40 = .ok (.invokevirtual 28, 3) := by decide +kernel
theorem d_113_43 : decode ov_m113.2.1 43 = .ok (.if_icmp .eq 64, 3) := by decide +kernel
theorem d_113_53 : decode ov_m113.2.1 53 = .ok (.invokevirtual 63, 3) := by decide +kernel
theorem d_113_56 : decode ov_m113.2.1 56 = .ok (.ifCond .eq 7, 3) := by decide +kernel
theorem d_113_60 : decode ov_m113.2.1 60 = .ok (.goto 4, 3) := by decide +kernel
theorem d_113_70 : decode ov_m113.2.1 70 = .ok (.if_icmp .ne 6, 3) := by decide +kernel
theorem d_113_75 : decode ov_m113.2.1 75 = .ok (.ireturn, 1) := by decide +kernel
theorem d_113_83 : decode ov_m113.2.1 83 = .ok (.invokevirtual 46, 3) := by decide +kernel
theorem d_113_89 : decode ov_m113.2.1 89 = .ok (.getfield 18, 3) := by decide +kernel
theorem d_113_96 : decode ov_m113.2.1 96 = .ok (.invokevirtual 42, 3) := by decide +kernel
theorem d_113_104 : decode ov_m113.2.1 104 = .ok (.goto (-77), 3) := by decide +kernel
theorem d_113_109 : decode ov_m113.2.1 109 = .ok (.ireturn, 1) := by decide +kernel
theorem b_113_0_4 : ov_ds ov_m113.2.1 0 [.aload_n 0, .aload_n 1, .iload_n 2, .iload_n 3] = true := by decide +kernel
theorem b_113_7_3 : ov_ds ov_m113.2.1 7 [.istore 5, .iload 5, .iconst (-1)] = true := by decide +kernel
theorem b_113_15_1 : ov_ds ov_m113.2.1 15 [.bipush (-2)] = true := by decide +kernel
theorem b_113_18_6 : ov_ds ov_m113.2.1 18 [.iload_n 2, .istore 6, .iload_n 3, .istore 7, .iconst 0, .istore 8] = true := by decide +kernel
theorem b_113_27_2 : ov_ds ov_m113.2.1 27 [.iload 8, .bipush 13] = true := by decide +kernel
theorem b_113_34_2 : ov_ds ov_m113.2.1 34 [.iload 6, .aload_n 0] = true := by decide +kernel
theorem b_113_46_4 : ov_ds ov_m113.2.1 46 [.aload_n 0, .iload 6, .iload 7, .iload 5] = true := by decide +kernel
theorem b_113_59_1 : ov_ds ov_m113.2.1 59 [.iconst 0] = true := by decide +kernel
theorem b_113_63_2 : ov_ds ov_m113.2.1 63 [.iconst 1, .istore 9] = true := by decide +kernel
theorem b_113_64_1 : ov_ds ov_m113.2.1 64 [.istore 9] = true := by decide +kernel
theorem b_113_66_2 : ov_ds ov_m113.2.1 66 [.iload 8, .iload 4] = true := by decide +kernel
theorem b_113_73_1 : ov_ds ov_m113.2.1 73 [.iload 9] = true := by decide +kernel
theorem b_113_76_4 : ov_ds ov_m113.2.1 76 [.aload_n 0, .iload 6, .iload 9, .iload 7] = true := by decide +kernel
theorem b_113_86_2 : ov_ds ov_m113.2.1 86 [.istore 7, .aload_n 0] = true := by decide +kernel
theorem b_113_92_2 : ov_ds ov_m113.2.1 92 [.iload 6, .iload 9] = true := by decide +kernel
theorem b_113_99_2 : ov_ds ov_m113.2.1 99 [.istore 6, .iinc 8 1] = true := by decide +kernel
theorem b_113_107_1 : ov_ds ov_m113.2.1 107 [.bipush (-2)] = true := by decide +kernel
abbrev P_OF_lesser_b (F : ov_H) (z : ov_Z) (h : ov_H) (a : Int) (b : Int) : Option ov_V → ov_Z → ov_H → Prop := fun r0 z' h' => ∃ r : Int, r0 = some (ov_i r) ∧ z = z' ∧ h = h' ∧ ((a = -1 → r = b) ∧ (¬ a = -1 → b = -1 → r = a) ∧ (¬ a = -1 → ¬ b = -1 → r ≤ a ∧ r ≤ b ∧ (r = a ∨ r = b)))
set_option maxHeartbeats 4000000 in
theorem c_OF_lesser_b {u : ov_U} {F : ov_H} {z : ov_Z} {h : ov_H} (d : Nat) (hd : 0 ≤ d) (U : ov_cap u) (I : ov_I F z h) (a : Int) (b : Int) (g_a : ov_g a) (g_b : ov_g b) : ov_T u d ov_m118 [ov_i a, ov_i b] z h (P_OF_lesser_b F z h a b) := by
  refine ov_en rfl (Nat.le_of_ble_eq_true rfl) ?_
  show ov_R u d ov_m118 0 [(0, ov_i a), (1, ov_i b)] [] z h (P_OF_lesser_b F z h a b)
  refine ov_blk (ls2 := [(0, ov_i a), (1, ov_i b)]) (st2 := [ov_i (-1), ov_i a]) (pc2 := 2) b_118_0_2 rfl rfl ?_
  refine ov_iceq (tgt := 15) d_118_2 (by decide) (by omega) (by omega) (fun c1 => ?_) (fun c1 => ?_)
  · skip
    refine ov_blk (ls2 := [(0, ov_i a), (1, ov_i b)]) (st2 := [ov_i b]) (pc2 := 16) b_118_15_1 rfl rfl ?_
    refine ov_goto (tgt := 20) d_118_16 (by decide) ?_
    exact ov_reti (st := []) d_118_20 rfl ⟨_, rfl, rfl, rfl, (by show (a = -1 → b = b) ∧ (¬ a = -1 → b = -1 → b = a) ∧ (¬ a = -1 → ¬ b = -1 → b ≤ a ∧ b ≤ b ∧ (b = a ∨ b = b)); omega)⟩
  · skip
    refine ov_blk (ls2 := [(0, ov_i a), (1, ov_i b)]) (st2 := [ov_i (-1), ov_i b]) (pc2 := 7) b_118_5_2 rfl rfl ?_
    refine ov_iceq (tgt := 19) d_118_7 (by decide) (by omega) (by omega) (fun c2 => ?_) (fun c2 => ?_)
    · skip
      refine ov_blk (ls2 := [(0, ov_i a), (1, ov_i b)]) (st2 := [ov_i a]) (pc2 := 20) b_118_19_1 rfl rfl ?_
      exact ov_reti (st := []) d_118_20 rfl ⟨_, rfl, rfl, rfl, (by show (a = -1 → a = b) ∧ (¬ a = -1 → b = -1 → a = a) ∧ (¬ a = -1 → ¬ b = -1 → a ≤ a ∧ a ≤ b ∧ (a = a ∨ a = b)); omega)⟩
    · skip
      refine ov_blk (ls2 := [(0, ov_i a), (1, ov_i b)]) (st2 := [ov_i a, ov_i b]) (pc2 := 12) b_118_10_2 rfl rfl ?_
      refine ov_icge (tgt := 19) d_118_12 (by decide) (by omega) (by omega) (fun c3 => ?_) (fun c3 => ?_)
      · skip
        refine ov_blk (ls2 := [(0, ov_i a), (1, ov_i b)]) (st2 := [ov_i a]) (pc2 := 20) b_118_19_1 rfl rfl ?_
        exact ov_reti (st := []) d_118_20 rfl ⟨_, rfl, rfl, rfl, (by show (a = -1 → a = b) ∧ (¬ a = -1 → b = -1 → a = a) ∧ (¬ a = -1 → ¬ b = -1 → a ≤ a ∧ a ≤ b ∧ (a = a ∨ a = b)); omega)⟩
      · skip
        refine ov_blk (ls2 := [(0, ov_i a), (1, ov_i b)]) (st2 := [ov_i b]) (pc2 := 16) b_118_15_1 rfl rfl ?_
        refine ov_goto (tgt := 20) d_118_16 (by decide) ?_
        exact ov_reti (st := []) d_118_20 rfl ⟨_, rfl, rfl, rfl, (by show (a = -1 → b = b) ∧ (¬ a = -1 → b = -1 → b = a) ∧ (¬ a = -1 → ¬ b = -1 → b ≤ a ∧ b ≤ b ∧ (b = a ∨ b = b)); omega)⟩
theorem ov_les_of {a b r : Int} (q : (a = -1 → r = b) ∧ (¬ a = -1 → b = -1 → r = a) ∧ (¬ a = -1 → ¬ b = -1 → r ≤ a ∧ r ≤ b ∧ (r = a ∨ r = b))) : r = ov_les a b := by
  unfold ov_les
  by_cases e : a = -1
  · rw [if_pos e]
    omega
  · rw [if_neg e]
    by_cases e2 : b = -1
    · rw [if_pos e2]
      omega
    · rw [if_neg e2]
      omega
theorem ov_tme {a b : Int} (hb : 0 < b) : (0 ≤ Int.tmod a b → a % b = Int.tmod a b) ∧ (Int.tmod a b < 0 → a % b = Int.tmod a b + b) := by
  have e : a % b = Int.tmod a b % b := by
    conv => lhs; rw [← Int.mul_tdiv_add_tmod a b]
    rw [Int.mul_add_emod_self_left]
  have h := ov_tms (a := a) hb
  refine ⟨fun q => ?_, fun q => ?_⟩
  · rw [e]
    exact Int.emod_eq_of_lt q (by omega)
  · rw [e, ← Int.add_emod_right]
    exact Int.emod_eq_of_lt (by omega) (by omega)
theorem ov_uj {h : ov_H} {a k x j : Int} : (j = k → ov_up h a k x a j = x) ∧ (j ≠ k → ov_up h a k x a j = h a j) := by
  unfold ov_up
  exact ⟨fun e => if_pos ⟨rfl, e⟩, fun e => if_neg (fun q => e q.2)⟩
theorem ov_ob0 {f : ov_TW} {c : Int} : ov_ob f c 0 = f.2.2.2.2.2.2 c % 2 := if_pos rfl
theorem ov_ob1 {f : ov_TW} {c : Int} : ov_ob f c 1 = f.2.2.2.2.2.2 c / 2 := if_neg (by decide)
abbrev P_Math_floorMod_III_b (F : ov_H) (z : ov_Z) (h : ov_H) (a : Int) (b : Int) : Option ov_V → ov_Z → ov_H → Prop := fun r0 z' h' => ∃ r : Int, r0 = some (ov_i r) ∧ z = z' ∧ h = h' ∧ (0 ≤ r ∧ r < b ∧ r = a % b)
set_option maxHeartbeats 4000000 in
theorem c_Math_floorMod_III_b {u : ov_U} {F : ov_H} {z : ov_Z} {h : ov_H} (d : Nat) (hd : 0 ≤ d) (U : ov_cap u) (I : ov_I F z h) (a : Int) (b : Int) (g_a : ov_g a) (g_b : ov_g b) (p0 : 0 < b) : ov_T u d ov_m100 [ov_i a, ov_i b] z h (P_Math_floorMod_III_b F z h a b) := by
  refine ov_enF pf_100 (Nat.le_of_ble_eq_true rfl) ?_
  show ov_R u d ov_m100 0 [(0, ov_i a), (1, ov_i b)] [] z h (P_Math_floorMod_III_b F z h a b)
  refine ov_blk (ls2 := [(0, ov_i a), (1, ov_i b)]) (st2 := [ov_i b, ov_i a]) (pc2 := 2) b_100_0_2 rfl rfl ?_
  refine ov_irem d_100_2 (by omega) (by omega) (by omega) ?_
  have g1 := ov_tmg (a := a) (b := b) (by omega) (by omega)
  refine ov_blk (ls2 := [(0, ov_i a), (1, ov_i b), (2, ov_i (Int.tmod a b))]) (st2 := [ov_i (ov_xor a b)]) (pc2 := 7) b_100_3_4 rfl rfl ?_
  have g2 := ov_xorg a b
  have fx := ov_xors (a := a) (b := b) (by omega) (by omega)
  have fy := ov_tms (a := a) (b := b) (by omega)
  have fz := ov_tme (a := a) (b := b) (by omega)
  refine ov_ifge (tgt := 18) d_100_7 (by decide) (by omega) (fun c3 => ?_) (fun c3 => ?_)
  · skip
    refine ov_blk (ls2 := [(0, ov_i a), (1, ov_i b), (2, ov_i (Int.tmod a b))]) (st2 := [ov_i (Int.tmod a b)]) (pc2 := 19) b_100_18_1 rfl rfl ?_
    exact ov_reti (st := []) d_100_19 rfl ⟨_, rfl, rfl, rfl, (by show 0 ≤ (Int.tmod a b) ∧ (Int.tmod a b) < b ∧ (Int.tmod a b) = a % b; omega)⟩
  · skip
    refine ov_blk (ls2 := [(0, ov_i a), (1, ov_i b), (2, ov_i (Int.tmod a b))]) (st2 := [ov_i (Int.tmod a b)]) (pc2 := 11) b_100_10_1 rfl rfl ?_
    refine ov_ifeq (tgt := 18) d_100_11 (by decide) (by omega) (fun c4 => ?_) (fun c4 => ?_)
    · skip
      refine ov_blk (ls2 := [(0, ov_i a), (1, ov_i b), (2, ov_i (Int.tmod a b))]) (st2 := [ov_i (Int.tmod a b)]) (pc2 := 19) b_100_18_1 rfl rfl ?_
      exact ov_reti (st := []) d_100_19 rfl ⟨_, rfl, rfl, rfl, (by show 0 ≤ (Int.tmod a b) ∧ (Int.tmod a b) < b ∧ (Int.tmod a b) = a % b; omega)⟩
    · skip
      refine ov_blk (ls2 := [(0, ov_i a), (1, ov_i b), (2, ov_i (Int.tmod a b))]) (st2 := [ov_i ((Int.tmod a b) + b)]) (pc2 := 17) b_100_14_3 rfl rfl ?_
      exact ov_reti (st := []) d_100_17 rfl ⟨_, rfl, rfl, rfl, (by show 0 ≤ ((Int.tmod a b) + b) ∧ ((Int.tmod a b) + b) < b ∧ ((Int.tmod a b) + b) = a % b; omega)⟩
abbrev ov_tw58 (h : ov_H) : ov_TW := (h 58, h 59, h 60, h 61, h 62, h 64, h 65)
theorem ov_ok58 {F : ov_H} {z : ov_Z} {h : ov_H} (I : ov_I F z h) (hw : 0 ≤ h 64 0) (hf : F (-5) 58 = 1) : ov_OKf (ov_tw58 h) := by
  refine ⟨fun c => ra_60 I c, fun c => ra_61 I c, fun c => ra_62 I c, ⟨hw, (ra_64 I 0).2.1⟩, ?_, fun c h0 h1 => ?_⟩
  · have g0 := rg_58_0 I
    have g1 := rg_58_1 I
    have g2 := fg_58 I hf
    show 0 ≤ (h 58 1 - 1) * 6 + h 58 0 - 1 ∧ (h 58 1 - 1) * 6 + h 58 0 - 1 ≤ 53
    omega
  · have g := ra_65 I c
    rw [ov_ob0, ov_ob1]
    show (h 65 c % 2 = 1 → c ≤ 52) ∧ (h 65 c / 2 = 1 → c ≤ 47)
    omega
theorem ov_tw58_eq {h h2 : ov_H} (E : ∀ a : Int, a ≠ 46 → a ≠ 47 → h2 a = h a) : ov_tw58 h2 = ov_tw58 h := by
  show (h2 58, h2 59, h2 60, h2 61, h2 62, h2 64, h2 65) = _
  rw [E 58 (by decide) (by decide), E 59 (by decide) (by decide), E 60 (by decide) (by decide), E 61 (by decide) (by decide), E 62 (by decide) (by decide), E 64 (by decide) (by decide), E 65 (by decide) (by decide)]
abbrev P_Town_isOpen_58_b (F : ov_H) (z : ov_Z) (h : ov_H) (c : Int) (way : Int) : Option ov_V → ov_Z → ov_H → Prop := fun r0 z' h' => ∃ r : Int, r0 = some (ov_i r) ∧ z = z' ∧ h = h' ∧ ((r = 0 ∨ r = 1) ∧ (way = 0 → r = (h 65 c) % 2) ∧ (way = 1 → r = (h 65 c) / 2))
set_option maxHeartbeats 4000000 in
theorem c_Town_isOpen_58_b {u : ov_U} {F : ov_H} {z : ov_Z} {h : ov_H} (d : Nat) (hd : 0 ≤ d) (U : ov_cap u) (I : ov_I F z h) (c : Int) (way : Int) (g_c : ov_g c) (g_way : ov_g way) (p0 : 0 ≤ c ∧ c ≤ 53) : ov_T u d ov_m98 [ov_r 58, ov_i c, ov_i way] z h (P_Town_isOpen_58_b F z h c way) := by
  refine ov_en rfl (Nat.le_of_ble_eq_true rfl) ?_
  show ov_R u d ov_m98 0 [(0, ov_r 58), (1, ov_i c), (2, ov_i way)] [] z h (P_Town_isOpen_58_b F z h c way)
  refine ov_blk (ls2 := [(0, ov_r 58), (1, ov_i c), (2, ov_i way)]) (st2 := [ov_i way]) (pc2 := 1) b_98_0_1 rfl rfl ?_
  refine ov_ifeq (tgt := 9) d_98_1 (by decide) (by omega) (fun c1 => ?_) (fun c1 => ?_)
  · skip
    refine ov_blk (ls2 := [(0, ov_r 58), (1, ov_i c), (2, ov_i way)]) (st2 := [ov_r 58]) (pc2 := 10) b_98_9_1 rfl rfl ?_
    refine ov_getf (v := ov_r 65) d_98_10 fl_Town_30 (zb_58 I) (zs_58 I) (congrArg ov_r (rg_58_12 I)) ?_
    refine ov_blk (ls2 := [(0, ov_r 58), (1, ov_i c), (2, ov_i way)]) (st2 := [ov_i c, ov_r 65]) (pc2 := 14) b_98_13_1 rfl rfl ?_
    refine ov_iald d_98_14 (zb_65 I) (zs_65 I) (by omega) ?_
    have g2 := ra_65 I c
    refine ov_blk (ls2 := [(0, ov_r 58), (1, ov_i c), (2, ov_i way)]) (st2 := [ov_i 1, ov_i (ov_shr (h 65 c) way)]) (pc2 := 18) b_98_15_3 rfl rfl ?_
    have g3 := ov_shrg (h 65 c) way
    have fo := ov_ob_sp (x := (h 65 c)) (way := way) (by omega)
    refine ov_blk (ls2 := [(0, ov_r 58), (1, ov_i c), (2, ov_i way)]) (st2 := [ov_i (ov_and (ov_shr (h 65 c) way) 1)]) (pc2 := 19) b_98_18_1 rfl rfl ?_
    have g4 := ov_andg (ov_shr (h 65 c) way) 1
    have g5 := ov_and1 (ov_shr (h 65 c) way)
    refine ov_ifeq (tgt := 26) d_98_19 (by decide) (by omega) (fun c6 => ?_) (fun c6 => ?_)
    · skip
      refine ov_blk (ls2 := [(0, ov_r 58), (1, ov_i c), (2, ov_i way)]) (st2 := [ov_i 0]) (pc2 := 27) b_98_26_1 rfl rfl ?_
      exact ov_retz (st := []) d_98_27 rfl (by omega) ⟨_, rfl, rfl, rfl, (by show (0 = 0 ∨ 0 = 1) ∧ (way = 0 → 0 = (h 65 c) % 2) ∧ (way = 1 → 0 = (h 65 c) / 2); omega)⟩
    · skip
      refine ov_blk (ls2 := [(0, ov_r 58), (1, ov_i c), (2, ov_i way)]) (st2 := [ov_i 1]) (pc2 := 23) b_98_22_1 rfl rfl ?_
      refine ov_goto (tgt := 27) d_98_23 (by decide) ?_
      exact ov_retz (st := []) d_98_27 rfl (by omega) ⟨_, rfl, rfl, rfl, (by show (1 = 0 ∨ 1 = 1) ∧ (way = 0 → 1 = (h 65 c) % 2) ∧ (way = 1 → 1 = (h 65 c) / 2); omega)⟩
  · skip
    refine ov_blk (ls2 := [(0, ov_r 58), (1, ov_i c), (2, ov_i way)]) (st2 := [ov_i 1, ov_i way]) (pc2 := 6) b_98_4_2 rfl rfl ?_
    refine ov_icne (tgt := 26) d_98_6 (by decide) (by omega) (by omega) (fun c7 => ?_) (fun c7 => ?_)
    · skip
      refine ov_blk (ls2 := [(0, ov_r 58), (1, ov_i c), (2, ov_i way)]) (st2 := [ov_i 0]) (pc2 := 27) b_98_26_1 rfl rfl ?_
      exact ov_retz (st := []) d_98_27 rfl (by omega) ⟨_, rfl, rfl, rfl, (by show (0 = 0 ∨ 0 = 1) ∧ (way = 0 → 0 = (h 65 c) % 2) ∧ (way = 1 → 0 = (h 65 c) / 2); omega)⟩
    · skip
      refine ov_blk (ls2 := [(0, ov_r 58), (1, ov_i c), (2, ov_i way)]) (st2 := [ov_r 58]) (pc2 := 10) b_98_9_1 rfl rfl ?_
      refine ov_getf (v := ov_r 65) d_98_10 fl_Town_30 (zb_58 I) (zs_58 I) (congrArg ov_r (rg_58_12 I)) ?_
      refine ov_blk (ls2 := [(0, ov_r 58), (1, ov_i c), (2, ov_i way)]) (st2 := [ov_i c, ov_r 65]) (pc2 := 14) b_98_13_1 rfl rfl ?_
      refine ov_iald d_98_14 (zb_65 I) (zs_65 I) (by omega) ?_
      have g8 := ra_65 I c
      refine ov_blk (ls2 := [(0, ov_r 58), (1, ov_i c), (2, ov_i way)]) (st2 := [ov_i 1, ov_i (ov_shr (h 65 c) way)]) (pc2 := 18) b_98_15_3 rfl rfl ?_
      have g9 := ov_shrg (h 65 c) way
      have fo := ov_ob_sp (x := (h 65 c)) (way := way) (by omega)
      refine ov_blk (ls2 := [(0, ov_r 58), (1, ov_i c), (2, ov_i way)]) (st2 := [ov_i (ov_and (ov_shr (h 65 c) way) 1)]) (pc2 := 19) b_98_18_1 rfl rfl ?_
      have g10 := ov_andg (ov_shr (h 65 c) way) 1
      have g11 := ov_and1 (ov_shr (h 65 c) way)
      refine ov_ifeq (tgt := 26) d_98_19 (by decide) (by omega) (fun c12 => ?_) (fun c12 => ?_)
      · skip
        refine ov_blk (ls2 := [(0, ov_r 58), (1, ov_i c), (2, ov_i way)]) (st2 := [ov_i 0]) (pc2 := 27) b_98_26_1 rfl rfl ?_
        exact ov_retz (st := []) d_98_27 rfl (by omega) ⟨_, rfl, rfl, rfl, (by show (0 = 0 ∨ 0 = 1) ∧ (way = 0 → 0 = (h 65 c) % 2) ∧ (way = 1 → 0 = (h 65 c) / 2); omega)⟩
      · skip
        refine ov_blk (ls2 := [(0, ov_r 58), (1, ov_i c), (2, ov_i way)]) (st2 := [ov_i 1]) (pc2 := 23) b_98_22_1 rfl rfl ?_
        refine ov_goto (tgt := 27) d_98_23 (by decide) ?_
        exact ov_retz (st := []) d_98_27 rfl (by omega) ⟨_, rfl, rfl, rfl, (by show (1 = 0 ∨ 1 = 1) ∧ (way = 0 → 1 = (h 65 c) % 2) ∧ (way = 1 → 1 = (h 65 c) / 2); omega)⟩
abbrev P_Town_isTimed_58_b (F : ov_H) (z : ov_Z) (h : ov_H) (c : Int) : Option ov_V → ov_Z → ov_H → Prop := fun r0 z' h' => ∃ r : Int, r0 = some (ov_i r) ∧ z = z' ∧ h = h' ∧ ((r = 0 ∧ ¬ (h 59 c) = 0 ∧ ¬ (h 59 c) = 1 ∨ r = 1 ∧ ((h 59 c) = 0 ∨ (h 59 c) = 1)))
set_option maxHeartbeats 4000000 in
theorem c_Town_isTimed_58_b {u : ov_U} {F : ov_H} {z : ov_Z} {h : ov_H} (d : Nat) (hd : 0 ≤ d) (U : ov_cap u) (I : ov_I F z h) (c : Int) (g_c : ov_g c) (p0 : 0 ≤ c ∧ c ≤ 53) : ov_T u d ov_m20 [ov_r 58, ov_i c] z h (P_Town_isTimed_58_b F z h c) := by
  refine ov_en rfl (Nat.le_of_ble_eq_true rfl) ?_
  show ov_R u d ov_m20 0 [(0, ov_r 58), (1, ov_i c)] [] z h (P_Town_isTimed_58_b F z h c)
  refine ov_blk (ls2 := [(0, ov_r 58), (1, ov_i c)]) (st2 := [ov_r 58]) (pc2 := 1) b_20_0_1 rfl rfl ?_
  refine ov_getf (v := ov_r 59) d_20_1 fl_Town_9 (zb_58 I) (zs_58 I) (congrArg ov_r (rg_58_2 I)) ?_
  refine ov_blk (ls2 := [(0, ov_r 58), (1, ov_i c)]) (st2 := [ov_i c, ov_r 59]) (pc2 := 5) b_20_4_1 rfl rfl ?_
  refine ov_iald d_20_5 (zb_59 I) (zs_59 I) (by omega) ?_
  have g1 := ra_59 I c
  refine ov_ifeq (tgt := 19) d_20_6 (by decide) (by omega) (fun c2 => ?_) (fun c2 => ?_)
  · skip
    refine ov_blk (ls2 := [(0, ov_r 58), (1, ov_i c)]) (st2 := [ov_i 1]) (pc2 := 20) b_20_19_1 rfl rfl ?_
    refine ov_goto (tgt := 24) d_20_20 (by decide) ?_
    exact ov_retz (st := []) d_20_24 rfl (by omega) ⟨_, rfl, rfl, rfl, (by show (1 = 0 ∧ ¬ (h 59 c) = 0 ∧ ¬ (h 59 c) = 1 ∨ 1 = 1 ∧ ((h 59 c) = 0 ∨ (h 59 c) = 1)); omega)⟩
  · skip
    refine ov_blk (ls2 := [(0, ov_r 58), (1, ov_i c)]) (st2 := [ov_r 58]) (pc2 := 10) b_20_9_1 rfl rfl ?_
    refine ov_getf (v := ov_r 59) d_20_10 fl_Town_9 (zb_58 I) (zs_58 I) (congrArg ov_r (rg_58_2 I)) ?_
    refine ov_blk (ls2 := [(0, ov_r 58), (1, ov_i c)]) (st2 := [ov_i c, ov_r 59]) (pc2 := 14) b_20_13_1 rfl rfl ?_
    refine ov_iald d_20_14 (zb_59 I) (zs_59 I) (by omega) ?_
    refine ov_blk (ls2 := [(0, ov_r 58), (1, ov_i c)]) (st2 := [ov_i 1, ov_i (h 59 c)]) (pc2 := 16) b_20_15_1 rfl rfl ?_
    refine ov_icne (tgt := 23) d_20_16 (by decide) (by omega) (by omega) (fun c4 => ?_) (fun c4 => ?_)
    · skip
      refine ov_blk (ls2 := [(0, ov_r 58), (1, ov_i c)]) (st2 := [ov_i 0]) (pc2 := 24) b_20_23_1 rfl rfl ?_
      exact ov_retz (st := []) d_20_24 rfl (by omega) ⟨_, rfl, rfl, rfl, (by show (0 = 0 ∧ ¬ (h 59 c) = 0 ∧ ¬ (h 59 c) = 1 ∨ 0 = 1 ∧ ((h 59 c) = 0 ∨ (h 59 c) = 1)); omega)⟩
    · skip
      refine ov_blk (ls2 := [(0, ov_r 58), (1, ov_i c)]) (st2 := [ov_i 1]) (pc2 := 20) b_20_19_1 rfl rfl ?_
      refine ov_goto (tgt := 24) d_20_20 (by decide) ?_
      exact ov_retz (st := []) d_20_24 rfl (by omega) ⟨_, rfl, rfl, rfl, (by show (1 = 0 ∧ ¬ (h 59 c) = 0 ∧ ¬ (h 59 c) = 1 ∨ 1 = 1 ∧ ((h 59 c) = 0 ∨ (h 59 c) = 1)); omega)⟩
abbrev P_Town_waitFor_58_b (F : ov_H) (z : ov_Z) (h : ov_H) (c : Int) (way : Int) (s : Int) : Option ov_V → ov_Z → ov_H → Prop := fun r0 z' h' => ∃ r : Int, r0 = some (ov_i r) ∧ z = z' ∧ h = h' ∧ (r = ov_wtv (h 59 c) (h 60 c) (h 61 c) (h 62 c) way s ∧ 0 ≤ r ∧ r ≤ 60)
set_option maxHeartbeats 4000000 in
theorem c_Town_waitFor_58_b {u : ov_U} {F : ov_H} {z : ov_Z} {h : ov_H} (d : Nat) (hd : 1 ≤ d) (U : ov_cap u) (I : ov_I F z h) (c : Int) (way : Int) (s : Int) (g_c : ov_g c) (g_way : ov_g way) (g_s : ov_g s) (p0 : 0 ≤ c ∧ c ≤ 53) (p1 : 0 ≤ s ∧ s ≤ 1100000) : ov_T u d ov_m99 [ov_r 58, ov_i c, ov_i way, ov_i s] z h (P_Town_waitFor_58_b F z h c way s) := by
  refine ov_en rfl (Nat.le_of_ble_eq_true rfl) ?_
  show ov_R u d ov_m99 0 [(0, ov_r 58), (1, ov_i c), (2, ov_i way), (3, ov_i s)] [] z h (P_Town_waitFor_58_b F z h c way s)
  refine ov_blk (ls2 := [(0, ov_r 58), (1, ov_i c), (2, ov_i way), (3, ov_i s)]) (st2 := [ov_r 58]) (pc2 := 1) b_99_0_1 rfl rfl ?_
  refine ov_getf (v := ov_r 59) d_99_1 fl_Town_9 (zb_58 I) (zs_58 I) (congrArg ov_r (rg_58_2 I)) ?_
  refine ov_blk (ls2 := [(0, ov_r 58), (1, ov_i c), (2, ov_i way), (3, ov_i s)]) (st2 := [ov_i c, ov_r 59]) (pc2 := 5) b_99_4_1 rfl rfl ?_
  refine ov_iald d_99_5 (zb_59 I) (zs_59 I) (by omega) ?_
  have g1 := ra_59 I c
  refine ov_blk (ls2 := [(0, ov_r 58), (1, ov_i c), (2, ov_i way), (3, ov_i s)]) (st2 := [ov_i 2, ov_i (h 59 c)]) (pc2 := 7) b_99_6_1 rfl rfl ?_
  refine ov_icne (tgt := 25) d_99_7 (by decide) (by omega) (by omega) (fun c2 => ?_) (fun c2 => ?_)
  · skip
    refine ov_blk (ls2 := [(0, ov_r 58), (1, ov_i c), (2, ov_i way), (3, ov_i s)]) (st2 := [ov_i c, ov_r 58]) (pc2 := 27) b_99_25_2 rfl rfl ?_
    refine ov_cV (as := [ov_i c]) (st := []) (d2 := d - 1) d_99_27 lk_Town_89 rfl (Nat.le_of_ble_eq_true rfl) (c := 9) (zb_58 I) (zs_58 I) ⟨by decide, rfl⟩ (by omega) (c_Town_isTimed_58_b (d - 1) (by omega) U I c (by omega) (by omega)) ?_
    rintro _ _ _ ⟨v4, rfl, rfl, rfl, f3⟩
    show ov_R u d ov_m99 30 [(0, ov_r 58), (1, ov_i c), (2, ov_i way), (3, ov_i s)] [ov_i v4] z h (P_Town_waitFor_58_b F z h c way s)
    have f5 : (v4 = 0 ∧ ¬ (h 59 c) = 0 ∧ ¬ (h 59 c) = 1 ∨ v4 = 1 ∧ ((h 59 c) = 0 ∨ (h 59 c) = 1)) := f3
    clear f3
    refine ov_ifne (tgt := 35) d_99_30 (by decide) (by omega) (fun c6 => ?_) (fun c6 => ?_)
    · skip
      refine ov_blk (ls2 := [(0, ov_r 58), (1, ov_i c), (2, ov_i way), (3, ov_i s)]) (st2 := [ov_r 58]) (pc2 := 36) b_99_35_1 rfl rfl ?_
      refine ov_getf (v := ov_r 60) d_99_36 fl_Town_15 (zb_58 I) (zs_58 I) (congrArg ov_r (rg_58_3 I)) ?_
      refine ov_blk (ls2 := [(0, ov_r 58), (1, ov_i c), (2, ov_i way), (3, ov_i s)]) (st2 := [ov_i c, ov_r 60]) (pc2 := 40) b_99_39_1 rfl rfl ?_
      refine ov_iald d_99_40 (zb_60 I) (zs_60 I) (by omega) ?_
      have g7 := ra_60 I c
      refine ov_ifle (tgt := 64) d_99_41 (by decide) (by omega) (fun c8 => ?_) (fun c8 => ?_)
      · skip
        refine ov_blk (ls2 := [(0, ov_r 58), (1, ov_i c), (2, ov_i way), (3, ov_i s), (4, ov_i 0)]) (st2 := [ov_r 58, ov_i 0]) (pc2 := 70) b_99_64_4 rfl rfl ?_
        refine ov_getf (v := ov_r 62) d_99_70 fl_Town_21 (zb_58 I) (zs_58 I) (congrArg ov_r (rg_58_5 I)) ?_
        refine ov_blk (ls2 := [(0, ov_r 58), (1, ov_i c), (2, ov_i way), (3, ov_i s), (4, ov_i 0)]) (st2 := [ov_i c, ov_r 62, ov_i 0]) (pc2 := 74) b_99_73_1 rfl rfl ?_
        refine ov_iald d_99_74 (zb_62 I) (zs_62 I) (by omega) ?_
        have g9 := ra_62 I c
        refine ov_icge (tgt := 96) d_99_75 (by decide) (by omega) (by omega) (fun c10 => ?_) (fun c10 => ?_)
        · skip
          refine ov_blk (ls2 := [(0, ov_r 58), (1, ov_i c), (2, ov_i way), (3, ov_i s), (4, ov_i 0)]) (st2 := [ov_i way]) (pc2 := 97) b_99_96_1 rfl rfl ?_
          refine ov_ifne (tgt := 112) d_99_97 (by decide) (by omega) (fun c11 => ?_) (fun c11 => ?_)
          · skip
            refine ov_blk (ls2 := [(0, ov_r 58), (1, ov_i c), (2, ov_i way), (3, ov_i s), (4, ov_i 0)]) (st2 := [ov_i 0]) (pc2 := 113) b_99_112_1 rfl rfl ?_
            exact ov_reti (st := []) d_99_113 rfl ⟨_, rfl, rfl, rfl, (by show 0 = ov_wtv (h 59 c) (h 60 c) (h 61 c) (h 62 c) way s ∧ 0 ≤ 0 ∧ 0 ≤ 60; refine ⟨?_, by omega⟩; unfold ov_wtv ov_since; repeat' split; all_goals omega)⟩
          · skip
            refine ov_blk (ls2 := [(0, ov_r 58), (1, ov_i c), (2, ov_i way), (3, ov_i s), (4, ov_i 0)]) (st2 := [ov_r 58]) (pc2 := 101) b_99_100_1 rfl rfl ?_
            refine ov_getf (v := ov_r 60) d_99_101 fl_Town_15 (zb_58 I) (zs_58 I) (congrArg ov_r (rg_58_3 I)) ?_
            refine ov_blk (ls2 := [(0, ov_r 58), (1, ov_i c), (2, ov_i way), (3, ov_i s), (4, ov_i 0)]) (st2 := [ov_i c, ov_r 60]) (pc2 := 105) b_99_104_1 rfl rfl ?_
            refine ov_iald d_99_105 (zb_60 I) (zs_60 I) (by omega) ?_
            refine ov_blk (ls2 := [(0, ov_r 58), (1, ov_i c), (2, ov_i way), (3, ov_i s), (4, ov_i 0)]) (st2 := [ov_i ((h 60 c) - 0)]) (pc2 := 109) b_99_106_2 rfl rfl ?_
            refine ov_goto (tgt := 113) d_99_109 (by decide) ?_
            exact ov_reti (st := []) d_99_113 rfl ⟨_, rfl, rfl, rfl, (by show ((h 60 c) - 0) = ov_wtv (h 59 c) (h 60 c) (h 61 c) (h 62 c) way s ∧ 0 ≤ ((h 60 c) - 0) ∧ ((h 60 c) - 0) ≤ 60; refine ⟨?_, by omega⟩; unfold ov_wtv ov_since; repeat' split; all_goals omega)⟩
        · skip
          refine ov_blk (ls2 := [(0, ov_r 58), (1, ov_i c), (2, ov_i way), (3, ov_i s), (4, ov_i 0)]) (st2 := [ov_i way]) (pc2 := 79) b_99_78_1 rfl rfl ?_
          refine ov_ifne (tgt := 86) d_99_79 (by decide) (by omega) (fun c13 => ?_) (fun c13 => ?_)
          · skip
            refine ov_blk (ls2 := [(0, ov_r 58), (1, ov_i c), (2, ov_i way), (3, ov_i s), (4, ov_i 0)]) (st2 := [ov_r 58]) (pc2 := 87) b_99_86_1 rfl rfl ?_
            refine ov_getf (v := ov_r 62) d_99_87 fl_Town_21 (zb_58 I) (zs_58 I) (congrArg ov_r (rg_58_5 I)) ?_
            refine ov_blk (ls2 := [(0, ov_r 58), (1, ov_i c), (2, ov_i way), (3, ov_i s), (4, ov_i 0)]) (st2 := [ov_i c, ov_r 62]) (pc2 := 91) b_99_90_1 rfl rfl ?_
            refine ov_iald d_99_91 (zb_62 I) (zs_62 I) (by omega) ?_
            refine ov_blk (ls2 := [(0, ov_r 58), (1, ov_i c), (2, ov_i way), (3, ov_i s), (4, ov_i 0)]) (st2 := [ov_i ((h 62 c) - 0)]) (pc2 := 95) b_99_92_2 rfl rfl ?_
            exact ov_reti (st := []) d_99_95 rfl ⟨_, rfl, rfl, rfl, (by show ((h 62 c) - 0) = ov_wtv (h 59 c) (h 60 c) (h 61 c) (h 62 c) way s ∧ 0 ≤ ((h 62 c) - 0) ∧ ((h 62 c) - 0) ≤ 60; refine ⟨?_, by omega⟩; unfold ov_wtv ov_since; repeat' split; all_goals omega)⟩
          · skip
            refine ov_blk (ls2 := [(0, ov_r 58), (1, ov_i c), (2, ov_i way), (3, ov_i s), (4, ov_i 0)]) (st2 := [ov_i 0]) (pc2 := 83) b_99_82_1 rfl rfl ?_
            refine ov_goto (tgt := 95) d_99_83 (by decide) ?_
            exact ov_reti (st := []) d_99_95 rfl ⟨_, rfl, rfl, rfl, (by show 0 = ov_wtv (h 59 c) (h 60 c) (h 61 c) (h 62 c) way s ∧ 0 ≤ 0 ∧ 0 ≤ 60; refine ⟨?_, by omega⟩; unfold ov_wtv ov_since; repeat' split; all_goals omega)⟩
      · skip
        refine ov_blk (ls2 := [(0, ov_r 58), (1, ov_i c), (2, ov_i way), (3, ov_i s)]) (st2 := [ov_r 58, ov_i s]) (pc2 := 46) b_99_44_2 rfl rfl ?_
        refine ov_getf (v := ov_r 61) d_99_46 fl_Town_18 (zb_58 I) (zs_58 I) (congrArg ov_r (rg_58_4 I)) ?_
        refine ov_blk (ls2 := [(0, ov_r 58), (1, ov_i c), (2, ov_i way), (3, ov_i s)]) (st2 := [ov_i c, ov_r 61, ov_i s]) (pc2 := 50) b_99_49_1 rfl rfl ?_
        refine ov_iald d_99_50 (zb_61 I) (zs_61 I) (by omega) ?_
        have g15 := ra_61 I c
        refine ov_blk (ls2 := [(0, ov_r 58), (1, ov_i c), (2, ov_i way), (3, ov_i s)]) (st2 := [ov_r 58, ov_i (s - (h 61 c))]) (pc2 := 53) b_99_51_2 rfl rfl ?_
        refine ov_getf (v := ov_r 60) d_99_53 fl_Town_15 (zb_58 I) (zs_58 I) (congrArg ov_r (rg_58_3 I)) ?_
        refine ov_blk (ls2 := [(0, ov_r 58), (1, ov_i c), (2, ov_i way), (3, ov_i s)]) (st2 := [ov_i c, ov_r 60, ov_i (s - (h 61 c))]) (pc2 := 57) b_99_56_1 rfl rfl ?_
        refine ov_iald d_99_57 (zb_60 I) (zs_60 I) (by omega) ?_
        refine ov_cS (as := [ov_i (s - (h 61 c)), ov_i (h 60 c)]) (st := []) (d2 := d - 1) d_99_58 lk_Town_103 rfl (Nat.le_of_ble_eq_true rfl) (by omega) (c_Math_floorMod_III_b (d - 1) (by omega) U I (s - (h 61 c)) (h 60 c) (by omega) (by omega) (by omega)) ?_
        rintro _ _ _ ⟨v18, rfl, rfl, rfl, f17⟩
        show ov_R u d ov_m99 61 [(0, ov_r 58), (1, ov_i c), (2, ov_i way), (3, ov_i s)] [ov_i v18] z h (P_Town_waitFor_58_b F z h c way s)
        have f19 : 0 ≤ v18 ∧ v18 < (h 60 c) ∧ v18 = (s - (h 61 c)) % (h 60 c) := f17
        clear f17
        refine ov_goto (tgt := 65) d_99_61 (by decide) ?_
        refine ov_blk (ls2 := [(0, ov_r 58), (1, ov_i c), (2, ov_i way), (3, ov_i s), (4, ov_i v18)]) (st2 := [ov_r 58, ov_i v18]) (pc2 := 70) b_99_65_3 rfl rfl ?_
        refine ov_getf (v := ov_r 62) d_99_70 fl_Town_21 (zb_58 I) (zs_58 I) (congrArg ov_r (rg_58_5 I)) ?_
        refine ov_blk (ls2 := [(0, ov_r 58), (1, ov_i c), (2, ov_i way), (3, ov_i s), (4, ov_i v18)]) (st2 := [ov_i c, ov_r 62, ov_i v18]) (pc2 := 74) b_99_73_1 rfl rfl ?_
        refine ov_iald d_99_74 (zb_62 I) (zs_62 I) (by omega) ?_
        have g20 := ra_62 I c
        refine ov_icge (tgt := 96) d_99_75 (by decide) (by omega) (by omega) (fun c21 => ?_) (fun c21 => ?_)
        · skip
          refine ov_blk (ls2 := [(0, ov_r 58), (1, ov_i c), (2, ov_i way), (3, ov_i s), (4, ov_i v18)]) (st2 := [ov_i way]) (pc2 := 97) b_99_96_1 rfl rfl ?_
          refine ov_ifne (tgt := 112) d_99_97 (by decide) (by omega) (fun c22 => ?_) (fun c22 => ?_)
          · skip
            refine ov_blk (ls2 := [(0, ov_r 58), (1, ov_i c), (2, ov_i way), (3, ov_i s), (4, ov_i v18)]) (st2 := [ov_i 0]) (pc2 := 113) b_99_112_1 rfl rfl ?_
            exact ov_reti (st := []) d_99_113 rfl ⟨_, rfl, rfl, rfl, (by show 0 = ov_wtv (h 59 c) (h 60 c) (h 61 c) (h 62 c) way s ∧ 0 ≤ 0 ∧ 0 ≤ 60; refine ⟨?_, by omega⟩; unfold ov_wtv ov_since; repeat' split; all_goals omega)⟩
          · skip
            refine ov_blk (ls2 := [(0, ov_r 58), (1, ov_i c), (2, ov_i way), (3, ov_i s), (4, ov_i v18)]) (st2 := [ov_r 58]) (pc2 := 101) b_99_100_1 rfl rfl ?_
            refine ov_getf (v := ov_r 60) d_99_101 fl_Town_15 (zb_58 I) (zs_58 I) (congrArg ov_r (rg_58_3 I)) ?_
            refine ov_blk (ls2 := [(0, ov_r 58), (1, ov_i c), (2, ov_i way), (3, ov_i s), (4, ov_i v18)]) (st2 := [ov_i c, ov_r 60]) (pc2 := 105) b_99_104_1 rfl rfl ?_
            refine ov_iald d_99_105 (zb_60 I) (zs_60 I) (by omega) ?_
            refine ov_blk (ls2 := [(0, ov_r 58), (1, ov_i c), (2, ov_i way), (3, ov_i s), (4, ov_i v18)]) (st2 := [ov_i ((h 60 c) - v18)]) (pc2 := 109) b_99_106_2 rfl rfl ?_
            refine ov_goto (tgt := 113) d_99_109 (by decide) ?_
            exact ov_reti (st := []) d_99_113 rfl ⟨_, rfl, rfl, rfl, (by show ((h 60 c) - v18) = ov_wtv (h 59 c) (h 60 c) (h 61 c) (h 62 c) way s ∧ 0 ≤ ((h 60 c) - v18) ∧ ((h 60 c) - v18) ≤ 60; refine ⟨?_, by omega⟩; unfold ov_wtv ov_since; repeat' split; all_goals omega)⟩
        · skip
          refine ov_blk (ls2 := [(0, ov_r 58), (1, ov_i c), (2, ov_i way), (3, ov_i s), (4, ov_i v18)]) (st2 := [ov_i way]) (pc2 := 79) b_99_78_1 rfl rfl ?_
          refine ov_ifne (tgt := 86) d_99_79 (by decide) (by omega) (fun c24 => ?_) (fun c24 => ?_)
          · skip
            refine ov_blk (ls2 := [(0, ov_r 58), (1, ov_i c), (2, ov_i way), (3, ov_i s), (4, ov_i v18)]) (st2 := [ov_r 58]) (pc2 := 87) b_99_86_1 rfl rfl ?_
            refine ov_getf (v := ov_r 62) d_99_87 fl_Town_21 (zb_58 I) (zs_58 I) (congrArg ov_r (rg_58_5 I)) ?_
            refine ov_blk (ls2 := [(0, ov_r 58), (1, ov_i c), (2, ov_i way), (3, ov_i s), (4, ov_i v18)]) (st2 := [ov_i c, ov_r 62]) (pc2 := 91) b_99_90_1 rfl rfl ?_
            refine ov_iald d_99_91 (zb_62 I) (zs_62 I) (by omega) ?_
            refine ov_blk (ls2 := [(0, ov_r 58), (1, ov_i c), (2, ov_i way), (3, ov_i s), (4, ov_i v18)]) (st2 := [ov_i ((h 62 c) - v18)]) (pc2 := 95) b_99_92_2 rfl rfl ?_
            exact ov_reti (st := []) d_99_95 rfl ⟨_, rfl, rfl, rfl, (by show ((h 62 c) - v18) = ov_wtv (h 59 c) (h 60 c) (h 61 c) (h 62 c) way s ∧ 0 ≤ ((h 62 c) - v18) ∧ ((h 62 c) - v18) ≤ 60; refine ⟨?_, by omega⟩; unfold ov_wtv ov_since; repeat' split; all_goals omega)⟩
          · skip
            refine ov_blk (ls2 := [(0, ov_r 58), (1, ov_i c), (2, ov_i way), (3, ov_i s), (4, ov_i v18)]) (st2 := [ov_i 0]) (pc2 := 83) b_99_82_1 rfl rfl ?_
            refine ov_goto (tgt := 95) d_99_83 (by decide) ?_
            exact ov_reti (st := []) d_99_95 rfl ⟨_, rfl, rfl, rfl, (by show 0 = ov_wtv (h 59 c) (h 60 c) (h 61 c) (h 62 c) way s ∧ 0 ≤ 0 ∧ 0 ≤ 60; refine ⟨?_, by omega⟩; unfold ov_wtv ov_since; repeat' split; all_goals omega)⟩
    · skip
      refine ov_blk (ls2 := [(0, ov_r 58), (1, ov_i c), (2, ov_i way), (3, ov_i s)]) (st2 := [ov_i 0]) (pc2 := 34) b_99_33_1 rfl rfl ?_
      exact ov_reti (st := []) d_99_34 rfl ⟨_, rfl, rfl, rfl, (by show 0 = ov_wtv (h 59 c) (h 60 c) (h 61 c) (h 62 c) way s ∧ 0 ≤ 0 ∧ 0 ≤ 60; refine ⟨?_, by omega⟩; unfold ov_wtv ov_since; repeat' split; all_goals omega)⟩
  · skip
    refine ov_blk (ls2 := [(0, ov_r 58), (1, ov_i c), (2, ov_i way), (3, ov_i s)]) (st2 := [ov_i way]) (pc2 := 11) b_99_10_1 rfl rfl ?_
    refine ov_ifne (tgt := 23) d_99_11 (by decide) (by omega) (fun c26 => ?_) (fun c26 => ?_)
    · skip
      refine ov_blk (ls2 := [(0, ov_r 58), (1, ov_i c), (2, ov_i way), (3, ov_i s)]) (st2 := [ov_i 0]) (pc2 := 24) b_99_23_1 rfl rfl ?_
      exact ov_reti (st := []) d_99_24 rfl ⟨_, rfl, rfl, rfl, (by show 0 = ov_wtv (h 59 c) (h 60 c) (h 61 c) (h 62 c) way s ∧ 0 ≤ 0 ∧ 0 ≤ 60; refine ⟨?_, by omega⟩; unfold ov_wtv ov_since; repeat' split; all_goals omega)⟩
    · skip
      refine ov_blk (ls2 := [(0, ov_r 58), (1, ov_i c), (2, ov_i way), (3, ov_i s)]) (st2 := [ov_r 58]) (pc2 := 15) b_99_14_1 rfl rfl ?_
      refine ov_getf (v := ov_r 61) d_99_15 fl_Town_18 (zb_58 I) (zs_58 I) (congrArg ov_r (rg_58_4 I)) ?_
      refine ov_blk (ls2 := [(0, ov_r 58), (1, ov_i c), (2, ov_i way), (3, ov_i s)]) (st2 := [ov_i c, ov_r 61]) (pc2 := 19) b_99_18_1 rfl rfl ?_
      refine ov_iald d_99_19 (zb_61 I) (zs_61 I) (by omega) ?_
      have g27 := ra_61 I c
      refine ov_goto (tgt := 24) d_99_20 (by decide) ?_
      exact ov_reti (st := []) d_99_24 rfl ⟨_, rfl, rfl, rfl, (by show (h 61 c) = ov_wtv (h 59 c) (h 60 c) (h 61 c) (h 62 c) way s ∧ 0 ≤ (h 61 c) ∧ (h 61 c) ≤ 60; refine ⟨?_, by omega⟩; unfold ov_wtv ov_since; repeat' split; all_goals omega)⟩
abbrev P_Ways_afterStreet_46_k46_3_58_b (F : ov_H) (z : ov_Z) (h : ov_H) (c : Int) (way : Int) (s : Int) : Option ov_V → ov_Z → ov_H → Prop := fun r0 z' h' => ∃ r : Int, r0 = some (ov_i r) ∧ z = z' ∧ h = h' ∧ (r = s + ov_wtv (h 59 c) (h 60 c) (h 61 c) (h 62 c) way s + (h 64 0) ∧ -1 ≤ r ∧ r ≤ 1100090)
set_option maxHeartbeats 4000000 in
theorem c_Ways_afterStreet_46_k46_3_58_b {u : ov_U} {F : ov_H} {z : ov_Z} {h : ov_H} (d : Nat) (hd : 2 ≤ d) (U : ov_cap u) (I : ov_I F z h) (c : Int) (way : Int) (s : Int) (k0 : h 46 3 = 58) (g_c : ov_g c) (g_way : ov_g way) (g_s : ov_g s) (p0 : 0 ≤ c ∧ c ≤ 53) (p1 : 0 ≤ s ∧ s ≤ 1100000) : ov_T u d ov_m117 [ov_r 46, ov_i c, ov_i way, ov_i s] z h (P_Ways_afterStreet_46_k46_3_58_b F z h c way s) := by
  refine ov_en rfl (Nat.le_of_ble_eq_true rfl) ?_
  show ov_R u d ov_m117 0 [(0, ov_r 46), (1, ov_i c), (2, ov_i way), (3, ov_i s)] [] z h (P_Ways_afterStreet_46_k46_3_58_b F z h c way s)
  refine ov_blk (ls2 := [(0, ov_r 46), (1, ov_i c), (2, ov_i way), (3, ov_i s)]) (st2 := [ov_r 46, ov_i s]) (pc2 := 2) b_117_0_2 rfl rfl ?_
  refine ov_getf (v := ov_r 58) d_117_2 fl_Ways_18 (zb_46 I) (zs_46 I) (congrArg ov_r k0) ?_
  refine ov_blk (ls2 := [(0, ov_r 46), (1, ov_i c), (2, ov_i way), (3, ov_i s)]) (st2 := [ov_i s, ov_i way, ov_i c, ov_r 58, ov_i s]) (pc2 := 8) b_117_5_3 rfl rfl ?_
  refine ov_cV (as := [ov_i c, ov_i way, ov_i s]) (st := [ov_i s]) (d2 := d - 1) d_117_8 lk_Ways_53 rfl (Nat.le_of_ble_eq_true rfl) (c := 9) (zb_58 I) (zs_58 I) ⟨by decide, rfl⟩ (by omega) (c_Town_waitFor_58_b (d - 1) (by omega) U I c way s (by omega) (by omega) (by omega) (by omega) (by omega)) ?_
  rintro _ _ _ ⟨v2, rfl, rfl, rfl, f1⟩
  show ov_R u d ov_m117 11 [(0, ov_r 46), (1, ov_i c), (2, ov_i way), (3, ov_i s)] [ov_i v2, ov_i s] z h (P_Ways_afterStreet_46_k46_3_58_b F z h c way s)
  have f3 : v2 = ov_wtv (h 59 c) (h 60 c) (h 61 c) (h 62 c) way s ∧ 0 ≤ v2 ∧ v2 ≤ 60 := f1
  clear f1
  refine ov_blk (ls2 := [(0, ov_r 46), (1, ov_i c), (2, ov_i way), (3, ov_i s)]) (st2 := [ov_r 46, ov_i (s + v2)]) (pc2 := 13) b_117_11_2 rfl rfl ?_
  refine ov_getf (v := ov_r 58) d_117_13 fl_Ways_18 (zb_46 I) (zs_46 I) (congrArg ov_r k0) ?_
  refine ov_getf (v := ov_r 64) d_117_16 fl_Ways_56 (zb_58 I) (zs_58 I) (congrArg ov_r (rg_58_7 I)) ?_
  refine ov_blk (ls2 := [(0, ov_r 46), (1, ov_i c), (2, ov_i way), (3, ov_i s)]) (st2 := [ov_i 0, ov_r 64, ov_i (s + v2)]) (pc2 := 20) b_117_19_1 rfl rfl ?_
  refine ov_iald d_117_20 (zb_64 I) (zs_64 I) (by omega) ?_
  have g4 := ra_64 I 0
  refine ov_blk (ls2 := [(0, ov_r 46), (1, ov_i c), (2, ov_i way), (3, ov_i s)]) (st2 := [ov_i ((s + v2) + (h 64 0))]) (pc2 := 22) b_117_21_1 rfl rfl ?_
  exact ov_reti (st := []) d_117_22 rfl ⟨_, rfl, rfl, rfl, (by show ((s + v2) + (h 64 0)) = s + ov_wtv (h 59 c) (h 60 c) (h 61 c) (h 62 c) way s + (h 64 0) ∧ -1 ≤ ((s + v2) + (h 64 0)) ∧ ((s + v2) + (h 64 0)) ≤ 1100090; omega)⟩
abbrev ov_tw70 (h : ov_H) : ov_TW := (h 70, h 71, h 72, h 73, h 74, h 76, h 77)
theorem ov_ok70 {F : ov_H} {z : ov_Z} {h : ov_H} (I : ov_I F z h) (hw : 0 ≤ h 76 0) (hf : F (-5) 70 = 1) : ov_OKf (ov_tw70 h) := by
  refine ⟨fun c => ra_72 I c, fun c => ra_73 I c, fun c => ra_74 I c, ⟨hw, (ra_76 I 0).2.1⟩, ?_, fun c h0 h1 => ?_⟩
  · have g0 := rg_70_0 I
    have g1 := rg_70_1 I
    have g2 := fg_70 I hf
    show 0 ≤ (h 70 1 - 1) * 6 + h 70 0 - 1 ∧ (h 70 1 - 1) * 6 + h 70 0 - 1 ≤ 53
    omega
  · have g := ra_77 I c
    rw [ov_ob0, ov_ob1]
    show (h 77 c % 2 = 1 → c ≤ 52) ∧ (h 77 c / 2 = 1 → c ≤ 47)
    omega
theorem ov_tw70_eq {h h2 : ov_H} (E : ∀ a : Int, a ≠ 46 → a ≠ 47 → h2 a = h a) : ov_tw70 h2 = ov_tw70 h := by
  show (h2 70, h2 71, h2 72, h2 73, h2 74, h2 76, h2 77) = _
  rw [E 70 (by decide) (by decide), E 71 (by decide) (by decide), E 72 (by decide) (by decide), E 73 (by decide) (by decide), E 74 (by decide) (by decide), E 76 (by decide) (by decide), E 77 (by decide) (by decide)]
abbrev P_Town_isOpen_70_b (F : ov_H) (z : ov_Z) (h : ov_H) (c : Int) (way : Int) : Option ov_V → ov_Z → ov_H → Prop := fun r0 z' h' => ∃ r : Int, r0 = some (ov_i r) ∧ z = z' ∧ h = h' ∧ ((r = 0 ∨ r = 1) ∧ (way = 0 → r = (h 77 c) % 2) ∧ (way = 1 → r = (h 77 c) / 2))
set_option maxHeartbeats 4000000 in
theorem c_Town_isOpen_70_b {u : ov_U} {F : ov_H} {z : ov_Z} {h : ov_H} (d : Nat) (hd : 0 ≤ d) (U : ov_cap u) (I : ov_I F z h) (c : Int) (way : Int) (g_c : ov_g c) (g_way : ov_g way) (p0 : 0 ≤ c ∧ c ≤ 53) : ov_T u d ov_m98 [ov_r 70, ov_i c, ov_i way] z h (P_Town_isOpen_70_b F z h c way) := by
  refine ov_en rfl (Nat.le_of_ble_eq_true rfl) ?_
  show ov_R u d ov_m98 0 [(0, ov_r 70), (1, ov_i c), (2, ov_i way)] [] z h (P_Town_isOpen_70_b F z h c way)
  refine ov_blk (ls2 := [(0, ov_r 70), (1, ov_i c), (2, ov_i way)]) (st2 := [ov_i way]) (pc2 := 1) b_98_0_1 rfl rfl ?_
  refine ov_ifeq (tgt := 9) d_98_1 (by decide) (by omega) (fun c1 => ?_) (fun c1 => ?_)
  · skip
    refine ov_blk (ls2 := [(0, ov_r 70), (1, ov_i c), (2, ov_i way)]) (st2 := [ov_r 70]) (pc2 := 10) b_98_9_1 rfl rfl ?_
    refine ov_getf (v := ov_r 77) d_98_10 fl_Town_30 (zb_70 I) (zs_70 I) (congrArg ov_r (rg_70_12 I)) ?_
    refine ov_blk (ls2 := [(0, ov_r 70), (1, ov_i c), (2, ov_i way)]) (st2 := [ov_i c, ov_r 77]) (pc2 := 14) b_98_13_1 rfl rfl ?_
    refine ov_iald d_98_14 (zb_77 I) (zs_77 I) (by omega) ?_
    have g2 := ra_77 I c
    refine ov_blk (ls2 := [(0, ov_r 70), (1, ov_i c), (2, ov_i way)]) (st2 := [ov_i 1, ov_i (ov_shr (h 77 c) way)]) (pc2 := 18) b_98_15_3 rfl rfl ?_
    have g3 := ov_shrg (h 77 c) way
    have fo := ov_ob_sp (x := (h 77 c)) (way := way) (by omega)
    refine ov_blk (ls2 := [(0, ov_r 70), (1, ov_i c), (2, ov_i way)]) (st2 := [ov_i (ov_and (ov_shr (h 77 c) way) 1)]) (pc2 := 19) b_98_18_1 rfl rfl ?_
    have g4 := ov_andg (ov_shr (h 77 c) way) 1
    have g5 := ov_and1 (ov_shr (h 77 c) way)
    refine ov_ifeq (tgt := 26) d_98_19 (by decide) (by omega) (fun c6 => ?_) (fun c6 => ?_)
    · skip
      refine ov_blk (ls2 := [(0, ov_r 70), (1, ov_i c), (2, ov_i way)]) (st2 := [ov_i 0]) (pc2 := 27) b_98_26_1 rfl rfl ?_
      exact ov_retz (st := []) d_98_27 rfl (by omega) ⟨_, rfl, rfl, rfl, (by show (0 = 0 ∨ 0 = 1) ∧ (way = 0 → 0 = (h 77 c) % 2) ∧ (way = 1 → 0 = (h 77 c) / 2); omega)⟩
    · skip
      refine ov_blk (ls2 := [(0, ov_r 70), (1, ov_i c), (2, ov_i way)]) (st2 := [ov_i 1]) (pc2 := 23) b_98_22_1 rfl rfl ?_
      refine ov_goto (tgt := 27) d_98_23 (by decide) ?_
      exact ov_retz (st := []) d_98_27 rfl (by omega) ⟨_, rfl, rfl, rfl, (by show (1 = 0 ∨ 1 = 1) ∧ (way = 0 → 1 = (h 77 c) % 2) ∧ (way = 1 → 1 = (h 77 c) / 2); omega)⟩
  · skip
    refine ov_blk (ls2 := [(0, ov_r 70), (1, ov_i c), (2, ov_i way)]) (st2 := [ov_i 1, ov_i way]) (pc2 := 6) b_98_4_2 rfl rfl ?_
    refine ov_icne (tgt := 26) d_98_6 (by decide) (by omega) (by omega) (fun c7 => ?_) (fun c7 => ?_)
    · skip
      refine ov_blk (ls2 := [(0, ov_r 70), (1, ov_i c), (2, ov_i way)]) (st2 := [ov_i 0]) (pc2 := 27) b_98_26_1 rfl rfl ?_
      exact ov_retz (st := []) d_98_27 rfl (by omega) ⟨_, rfl, rfl, rfl, (by show (0 = 0 ∨ 0 = 1) ∧ (way = 0 → 0 = (h 77 c) % 2) ∧ (way = 1 → 0 = (h 77 c) / 2); omega)⟩
    · skip
      refine ov_blk (ls2 := [(0, ov_r 70), (1, ov_i c), (2, ov_i way)]) (st2 := [ov_r 70]) (pc2 := 10) b_98_9_1 rfl rfl ?_
      refine ov_getf (v := ov_r 77) d_98_10 fl_Town_30 (zb_70 I) (zs_70 I) (congrArg ov_r (rg_70_12 I)) ?_
      refine ov_blk (ls2 := [(0, ov_r 70), (1, ov_i c), (2, ov_i way)]) (st2 := [ov_i c, ov_r 77]) (pc2 := 14) b_98_13_1 rfl rfl ?_
      refine ov_iald d_98_14 (zb_77 I) (zs_77 I) (by omega) ?_
      have g8 := ra_77 I c
      refine ov_blk (ls2 := [(0, ov_r 70), (1, ov_i c), (2, ov_i way)]) (st2 := [ov_i 1, ov_i (ov_shr (h 77 c) way)]) (pc2 := 18) b_98_15_3 rfl rfl ?_
      have g9 := ov_shrg (h 77 c) way
      have fo := ov_ob_sp (x := (h 77 c)) (way := way) (by omega)
      refine ov_blk (ls2 := [(0, ov_r 70), (1, ov_i c), (2, ov_i way)]) (st2 := [ov_i (ov_and (ov_shr (h 77 c) way) 1)]) (pc2 := 19) b_98_18_1 rfl rfl ?_
      have g10 := ov_andg (ov_shr (h 77 c) way) 1
      have g11 := ov_and1 (ov_shr (h 77 c) way)
      refine ov_ifeq (tgt := 26) d_98_19 (by decide) (by omega) (fun c12 => ?_) (fun c12 => ?_)
      · skip
        refine ov_blk (ls2 := [(0, ov_r 70), (1, ov_i c), (2, ov_i way)]) (st2 := [ov_i 0]) (pc2 := 27) b_98_26_1 rfl rfl ?_
        exact ov_retz (st := []) d_98_27 rfl (by omega) ⟨_, rfl, rfl, rfl, (by show (0 = 0 ∨ 0 = 1) ∧ (way = 0 → 0 = (h 77 c) % 2) ∧ (way = 1 → 0 = (h 77 c) / 2); omega)⟩
      · skip
        refine ov_blk (ls2 := [(0, ov_r 70), (1, ov_i c), (2, ov_i way)]) (st2 := [ov_i 1]) (pc2 := 23) b_98_22_1 rfl rfl ?_
        refine ov_goto (tgt := 27) d_98_23 (by decide) ?_
        exact ov_retz (st := []) d_98_27 rfl (by omega) ⟨_, rfl, rfl, rfl, (by show (1 = 0 ∨ 1 = 1) ∧ (way = 0 → 1 = (h 77 c) % 2) ∧ (way = 1 → 1 = (h 77 c) / 2); omega)⟩
abbrev P_Town_isTimed_70_b (F : ov_H) (z : ov_Z) (h : ov_H) (c : Int) : Option ov_V → ov_Z → ov_H → Prop := fun r0 z' h' => ∃ r : Int, r0 = some (ov_i r) ∧ z = z' ∧ h = h' ∧ ((r = 0 ∧ ¬ (h 71 c) = 0 ∧ ¬ (h 71 c) = 1 ∨ r = 1 ∧ ((h 71 c) = 0 ∨ (h 71 c) = 1)))
set_option maxHeartbeats 4000000 in
theorem c_Town_isTimed_70_b {u : ov_U} {F : ov_H} {z : ov_Z} {h : ov_H} (d : Nat) (hd : 0 ≤ d) (U : ov_cap u) (I : ov_I F z h) (c : Int) (g_c : ov_g c) (p0 : 0 ≤ c ∧ c ≤ 53) : ov_T u d ov_m20 [ov_r 70, ov_i c] z h (P_Town_isTimed_70_b F z h c) := by
  refine ov_en rfl (Nat.le_of_ble_eq_true rfl) ?_
  show ov_R u d ov_m20 0 [(0, ov_r 70), (1, ov_i c)] [] z h (P_Town_isTimed_70_b F z h c)
  refine ov_blk (ls2 := [(0, ov_r 70), (1, ov_i c)]) (st2 := [ov_r 70]) (pc2 := 1) b_20_0_1 rfl rfl ?_
  refine ov_getf (v := ov_r 71) d_20_1 fl_Town_9 (zb_70 I) (zs_70 I) (congrArg ov_r (rg_70_2 I)) ?_
  refine ov_blk (ls2 := [(0, ov_r 70), (1, ov_i c)]) (st2 := [ov_i c, ov_r 71]) (pc2 := 5) b_20_4_1 rfl rfl ?_
  refine ov_iald d_20_5 (zb_71 I) (zs_71 I) (by omega) ?_
  have g1 := ra_71 I c
  refine ov_ifeq (tgt := 19) d_20_6 (by decide) (by omega) (fun c2 => ?_) (fun c2 => ?_)
  · skip
    refine ov_blk (ls2 := [(0, ov_r 70), (1, ov_i c)]) (st2 := [ov_i 1]) (pc2 := 20) b_20_19_1 rfl rfl ?_
    refine ov_goto (tgt := 24) d_20_20 (by decide) ?_
    exact ov_retz (st := []) d_20_24 rfl (by omega) ⟨_, rfl, rfl, rfl, (by show (1 = 0 ∧ ¬ (h 71 c) = 0 ∧ ¬ (h 71 c) = 1 ∨ 1 = 1 ∧ ((h 71 c) = 0 ∨ (h 71 c) = 1)); omega)⟩
  · skip
    refine ov_blk (ls2 := [(0, ov_r 70), (1, ov_i c)]) (st2 := [ov_r 70]) (pc2 := 10) b_20_9_1 rfl rfl ?_
    refine ov_getf (v := ov_r 71) d_20_10 fl_Town_9 (zb_70 I) (zs_70 I) (congrArg ov_r (rg_70_2 I)) ?_
    refine ov_blk (ls2 := [(0, ov_r 70), (1, ov_i c)]) (st2 := [ov_i c, ov_r 71]) (pc2 := 14) b_20_13_1 rfl rfl ?_
    refine ov_iald d_20_14 (zb_71 I) (zs_71 I) (by omega) ?_
    refine ov_blk (ls2 := [(0, ov_r 70), (1, ov_i c)]) (st2 := [ov_i 1, ov_i (h 71 c)]) (pc2 := 16) b_20_15_1 rfl rfl ?_
    refine ov_icne (tgt := 23) d_20_16 (by decide) (by omega) (by omega) (fun c4 => ?_) (fun c4 => ?_)
    · skip
      refine ov_blk (ls2 := [(0, ov_r 70), (1, ov_i c)]) (st2 := [ov_i 0]) (pc2 := 24) b_20_23_1 rfl rfl ?_
      exact ov_retz (st := []) d_20_24 rfl (by omega) ⟨_, rfl, rfl, rfl, (by show (0 = 0 ∧ ¬ (h 71 c) = 0 ∧ ¬ (h 71 c) = 1 ∨ 0 = 1 ∧ ((h 71 c) = 0 ∨ (h 71 c) = 1)); omega)⟩
    · skip
      refine ov_blk (ls2 := [(0, ov_r 70), (1, ov_i c)]) (st2 := [ov_i 1]) (pc2 := 20) b_20_19_1 rfl rfl ?_
      refine ov_goto (tgt := 24) d_20_20 (by decide) ?_
      exact ov_retz (st := []) d_20_24 rfl (by omega) ⟨_, rfl, rfl, rfl, (by show (1 = 0 ∧ ¬ (h 71 c) = 0 ∧ ¬ (h 71 c) = 1 ∨ 1 = 1 ∧ ((h 71 c) = 0 ∨ (h 71 c) = 1)); omega)⟩
abbrev P_Town_waitFor_70_b (F : ov_H) (z : ov_Z) (h : ov_H) (c : Int) (way : Int) (s : Int) : Option ov_V → ov_Z → ov_H → Prop := fun r0 z' h' => ∃ r : Int, r0 = some (ov_i r) ∧ z = z' ∧ h = h' ∧ (r = ov_wtv (h 71 c) (h 72 c) (h 73 c) (h 74 c) way s ∧ 0 ≤ r ∧ r ≤ 60)
set_option maxHeartbeats 4000000 in
theorem c_Town_waitFor_70_b {u : ov_U} {F : ov_H} {z : ov_Z} {h : ov_H} (d : Nat) (hd : 1 ≤ d) (U : ov_cap u) (I : ov_I F z h) (c : Int) (way : Int) (s : Int) (g_c : ov_g c) (g_way : ov_g way) (g_s : ov_g s) (p0 : 0 ≤ c ∧ c ≤ 53) (p1 : 0 ≤ s ∧ s ≤ 1100000) : ov_T u d ov_m99 [ov_r 70, ov_i c, ov_i way, ov_i s] z h (P_Town_waitFor_70_b F z h c way s) := by
  refine ov_en rfl (Nat.le_of_ble_eq_true rfl) ?_
  show ov_R u d ov_m99 0 [(0, ov_r 70), (1, ov_i c), (2, ov_i way), (3, ov_i s)] [] z h (P_Town_waitFor_70_b F z h c way s)
  refine ov_blk (ls2 := [(0, ov_r 70), (1, ov_i c), (2, ov_i way), (3, ov_i s)]) (st2 := [ov_r 70]) (pc2 := 1) b_99_0_1 rfl rfl ?_
  refine ov_getf (v := ov_r 71) d_99_1 fl_Town_9 (zb_70 I) (zs_70 I) (congrArg ov_r (rg_70_2 I)) ?_
  refine ov_blk (ls2 := [(0, ov_r 70), (1, ov_i c), (2, ov_i way), (3, ov_i s)]) (st2 := [ov_i c, ov_r 71]) (pc2 := 5) b_99_4_1 rfl rfl ?_
  refine ov_iald d_99_5 (zb_71 I) (zs_71 I) (by omega) ?_
  have g1 := ra_71 I c
  refine ov_blk (ls2 := [(0, ov_r 70), (1, ov_i c), (2, ov_i way), (3, ov_i s)]) (st2 := [ov_i 2, ov_i (h 71 c)]) (pc2 := 7) b_99_6_1 rfl rfl ?_
  refine ov_icne (tgt := 25) d_99_7 (by decide) (by omega) (by omega) (fun c2 => ?_) (fun c2 => ?_)
  · skip
    refine ov_blk (ls2 := [(0, ov_r 70), (1, ov_i c), (2, ov_i way), (3, ov_i s)]) (st2 := [ov_i c, ov_r 70]) (pc2 := 27) b_99_25_2 rfl rfl ?_
    refine ov_cV (as := [ov_i c]) (st := []) (d2 := d - 1) d_99_27 lk_Town_89 rfl (Nat.le_of_ble_eq_true rfl) (c := 9) (zb_70 I) (zs_70 I) ⟨by decide, rfl⟩ (by omega) (c_Town_isTimed_70_b (d - 1) (by omega) U I c (by omega) (by omega)) ?_
    rintro _ _ _ ⟨v4, rfl, rfl, rfl, f3⟩
    show ov_R u d ov_m99 30 [(0, ov_r 70), (1, ov_i c), (2, ov_i way), (3, ov_i s)] [ov_i v4] z h (P_Town_waitFor_70_b F z h c way s)
    have f5 : (v4 = 0 ∧ ¬ (h 71 c) = 0 ∧ ¬ (h 71 c) = 1 ∨ v4 = 1 ∧ ((h 71 c) = 0 ∨ (h 71 c) = 1)) := f3
    clear f3
    refine ov_ifne (tgt := 35) d_99_30 (by decide) (by omega) (fun c6 => ?_) (fun c6 => ?_)
    · skip
      refine ov_blk (ls2 := [(0, ov_r 70), (1, ov_i c), (2, ov_i way), (3, ov_i s)]) (st2 := [ov_r 70]) (pc2 := 36) b_99_35_1 rfl rfl ?_
      refine ov_getf (v := ov_r 72) d_99_36 fl_Town_15 (zb_70 I) (zs_70 I) (congrArg ov_r (rg_70_3 I)) ?_
      refine ov_blk (ls2 := [(0, ov_r 70), (1, ov_i c), (2, ov_i way), (3, ov_i s)]) (st2 := [ov_i c, ov_r 72]) (pc2 := 40) b_99_39_1 rfl rfl ?_
      refine ov_iald d_99_40 (zb_72 I) (zs_72 I) (by omega) ?_
      have g7 := ra_72 I c
      refine ov_ifle (tgt := 64) d_99_41 (by decide) (by omega) (fun c8 => ?_) (fun c8 => ?_)
      · skip
        refine ov_blk (ls2 := [(0, ov_r 70), (1, ov_i c), (2, ov_i way), (3, ov_i s), (4, ov_i 0)]) (st2 := [ov_r 70, ov_i 0]) (pc2 := 70) b_99_64_4 rfl rfl ?_
        refine ov_getf (v := ov_r 74) d_99_70 fl_Town_21 (zb_70 I) (zs_70 I) (congrArg ov_r (rg_70_5 I)) ?_
        refine ov_blk (ls2 := [(0, ov_r 70), (1, ov_i c), (2, ov_i way), (3, ov_i s), (4, ov_i 0)]) (st2 := [ov_i c, ov_r 74, ov_i 0]) (pc2 := 74) b_99_73_1 rfl rfl ?_
        refine ov_iald d_99_74 (zb_74 I) (zs_74 I) (by omega) ?_
        have g9 := ra_74 I c
        refine ov_icge (tgt := 96) d_99_75 (by decide) (by omega) (by omega) (fun c10 => ?_) (fun c10 => ?_)
        · skip
          refine ov_blk (ls2 := [(0, ov_r 70), (1, ov_i c), (2, ov_i way), (3, ov_i s), (4, ov_i 0)]) (st2 := [ov_i way]) (pc2 := 97) b_99_96_1 rfl rfl ?_
          refine ov_ifne (tgt := 112) d_99_97 (by decide) (by omega) (fun c11 => ?_) (fun c11 => ?_)
          · skip
            refine ov_blk (ls2 := [(0, ov_r 70), (1, ov_i c), (2, ov_i way), (3, ov_i s), (4, ov_i 0)]) (st2 := [ov_i 0]) (pc2 := 113) b_99_112_1 rfl rfl ?_
            exact ov_reti (st := []) d_99_113 rfl ⟨_, rfl, rfl, rfl, (by show 0 = ov_wtv (h 71 c) (h 72 c) (h 73 c) (h 74 c) way s ∧ 0 ≤ 0 ∧ 0 ≤ 60; refine ⟨?_, by omega⟩; unfold ov_wtv ov_since; repeat' split; all_goals omega)⟩
          · skip
            refine ov_blk (ls2 := [(0, ov_r 70), (1, ov_i c), (2, ov_i way), (3, ov_i s), (4, ov_i 0)]) (st2 := [ov_r 70]) (pc2 := 101) b_99_100_1 rfl rfl ?_
            refine ov_getf (v := ov_r 72) d_99_101 fl_Town_15 (zb_70 I) (zs_70 I) (congrArg ov_r (rg_70_3 I)) ?_
            refine ov_blk (ls2 := [(0, ov_r 70), (1, ov_i c), (2, ov_i way), (3, ov_i s), (4, ov_i 0)]) (st2 := [ov_i c, ov_r 72]) (pc2 := 105) b_99_104_1 rfl rfl ?_
            refine ov_iald d_99_105 (zb_72 I) (zs_72 I) (by omega) ?_
            refine ov_blk (ls2 := [(0, ov_r 70), (1, ov_i c), (2, ov_i way), (3, ov_i s), (4, ov_i 0)]) (st2 := [ov_i ((h 72 c) - 0)]) (pc2 := 109) b_99_106_2 rfl rfl ?_
            refine ov_goto (tgt := 113) d_99_109 (by decide) ?_
            exact ov_reti (st := []) d_99_113 rfl ⟨_, rfl, rfl, rfl, (by show ((h 72 c) - 0) = ov_wtv (h 71 c) (h 72 c) (h 73 c) (h 74 c) way s ∧ 0 ≤ ((h 72 c) - 0) ∧ ((h 72 c) - 0) ≤ 60; refine ⟨?_, by omega⟩; unfold ov_wtv ov_since; repeat' split; all_goals omega)⟩
        · skip
          refine ov_blk (ls2 := [(0, ov_r 70), (1, ov_i c), (2, ov_i way), (3, ov_i s), (4, ov_i 0)]) (st2 := [ov_i way]) (pc2 := 79) b_99_78_1 rfl rfl ?_
          refine ov_ifne (tgt := 86) d_99_79 (by decide) (by omega) (fun c13 => ?_) (fun c13 => ?_)
          · skip
            refine ov_blk (ls2 := [(0, ov_r 70), (1, ov_i c), (2, ov_i way), (3, ov_i s), (4, ov_i 0)]) (st2 := [ov_r 70]) (pc2 := 87) b_99_86_1 rfl rfl ?_
            refine ov_getf (v := ov_r 74) d_99_87 fl_Town_21 (zb_70 I) (zs_70 I) (congrArg ov_r (rg_70_5 I)) ?_
            refine ov_blk (ls2 := [(0, ov_r 70), (1, ov_i c), (2, ov_i way), (3, ov_i s), (4, ov_i 0)]) (st2 := [ov_i c, ov_r 74]) (pc2 := 91) b_99_90_1 rfl rfl ?_
            refine ov_iald d_99_91 (zb_74 I) (zs_74 I) (by omega) ?_
            refine ov_blk (ls2 := [(0, ov_r 70), (1, ov_i c), (2, ov_i way), (3, ov_i s), (4, ov_i 0)]) (st2 := [ov_i ((h 74 c) - 0)]) (pc2 := 95) b_99_92_2 rfl rfl ?_
            exact ov_reti (st := []) d_99_95 rfl ⟨_, rfl, rfl, rfl, (by show ((h 74 c) - 0) = ov_wtv (h 71 c) (h 72 c) (h 73 c) (h 74 c) way s ∧ 0 ≤ ((h 74 c) - 0) ∧ ((h 74 c) - 0) ≤ 60; refine ⟨?_, by omega⟩; unfold ov_wtv ov_since; repeat' split; all_goals omega)⟩
          · skip
            refine ov_blk (ls2 := [(0, ov_r 70), (1, ov_i c), (2, ov_i way), (3, ov_i s), (4, ov_i 0)]) (st2 := [ov_i 0]) (pc2 := 83) b_99_82_1 rfl rfl ?_
            refine ov_goto (tgt := 95) d_99_83 (by decide) ?_
            exact ov_reti (st := []) d_99_95 rfl ⟨_, rfl, rfl, rfl, (by show 0 = ov_wtv (h 71 c) (h 72 c) (h 73 c) (h 74 c) way s ∧ 0 ≤ 0 ∧ 0 ≤ 60; refine ⟨?_, by omega⟩; unfold ov_wtv ov_since; repeat' split; all_goals omega)⟩
      · skip
        refine ov_blk (ls2 := [(0, ov_r 70), (1, ov_i c), (2, ov_i way), (3, ov_i s)]) (st2 := [ov_r 70, ov_i s]) (pc2 := 46) b_99_44_2 rfl rfl ?_
        refine ov_getf (v := ov_r 73) d_99_46 fl_Town_18 (zb_70 I) (zs_70 I) (congrArg ov_r (rg_70_4 I)) ?_
        refine ov_blk (ls2 := [(0, ov_r 70), (1, ov_i c), (2, ov_i way), (3, ov_i s)]) (st2 := [ov_i c, ov_r 73, ov_i s]) (pc2 := 50) b_99_49_1 rfl rfl ?_
        refine ov_iald d_99_50 (zb_73 I) (zs_73 I) (by omega) ?_
        have g15 := ra_73 I c
        refine ov_blk (ls2 := [(0, ov_r 70), (1, ov_i c), (2, ov_i way), (3, ov_i s)]) (st2 := [ov_r 70, ov_i (s - (h 73 c))]) (pc2 := 53) b_99_51_2 rfl rfl ?_
        refine ov_getf (v := ov_r 72) d_99_53 fl_Town_15 (zb_70 I) (zs_70 I) (congrArg ov_r (rg_70_3 I)) ?_
        refine ov_blk (ls2 := [(0, ov_r 70), (1, ov_i c), (2, ov_i way), (3, ov_i s)]) (st2 := [ov_i c, ov_r 72, ov_i (s - (h 73 c))]) (pc2 := 57) b_99_56_1 rfl rfl ?_
        refine ov_iald d_99_57 (zb_72 I) (zs_72 I) (by omega) ?_
        refine ov_cS (as := [ov_i (s - (h 73 c)), ov_i (h 72 c)]) (st := []) (d2 := d - 1) d_99_58 lk_Town_103 rfl (Nat.le_of_ble_eq_true rfl) (by omega) (c_Math_floorMod_III_b (d - 1) (by omega) U I (s - (h 73 c)) (h 72 c) (by omega) (by omega) (by omega)) ?_
        rintro _ _ _ ⟨v18, rfl, rfl, rfl, f17⟩
        show ov_R u d ov_m99 61 [(0, ov_r 70), (1, ov_i c), (2, ov_i way), (3, ov_i s)] [ov_i v18] z h (P_Town_waitFor_70_b F z h c way s)
        have f19 : 0 ≤ v18 ∧ v18 < (h 72 c) ∧ v18 = (s - (h 73 c)) % (h 72 c) := f17
        clear f17
        refine ov_goto (tgt := 65) d_99_61 (by decide) ?_
        refine ov_blk (ls2 := [(0, ov_r 70), (1, ov_i c), (2, ov_i way), (3, ov_i s), (4, ov_i v18)]) (st2 := [ov_r 70, ov_i v18]) (pc2 := 70) b_99_65_3 rfl rfl ?_
        refine ov_getf (v := ov_r 74) d_99_70 fl_Town_21 (zb_70 I) (zs_70 I) (congrArg ov_r (rg_70_5 I)) ?_
        refine ov_blk (ls2 := [(0, ov_r 70), (1, ov_i c), (2, ov_i way), (3, ov_i s), (4, ov_i v18)]) (st2 := [ov_i c, ov_r 74, ov_i v18]) (pc2 := 74) b_99_73_1 rfl rfl ?_
        refine ov_iald d_99_74 (zb_74 I) (zs_74 I) (by omega) ?_
        have g20 := ra_74 I c
        refine ov_icge (tgt := 96) d_99_75 (by decide) (by omega) (by omega) (fun c21 => ?_) (fun c21 => ?_)
        · skip
          refine ov_blk (ls2 := [(0, ov_r 70), (1, ov_i c), (2, ov_i way), (3, ov_i s), (4, ov_i v18)]) (st2 := [ov_i way]) (pc2 := 97) b_99_96_1 rfl rfl ?_
          refine ov_ifne (tgt := 112) d_99_97 (by decide) (by omega) (fun c22 => ?_) (fun c22 => ?_)
          · skip
            refine ov_blk (ls2 := [(0, ov_r 70), (1, ov_i c), (2, ov_i way), (3, ov_i s), (4, ov_i v18)]) (st2 := [ov_i 0]) (pc2 := 113) b_99_112_1 rfl rfl ?_
            exact ov_reti (st := []) d_99_113 rfl ⟨_, rfl, rfl, rfl, (by show 0 = ov_wtv (h 71 c) (h 72 c) (h 73 c) (h 74 c) way s ∧ 0 ≤ 0 ∧ 0 ≤ 60; refine ⟨?_, by omega⟩; unfold ov_wtv ov_since; repeat' split; all_goals omega)⟩
          · skip
            refine ov_blk (ls2 := [(0, ov_r 70), (1, ov_i c), (2, ov_i way), (3, ov_i s), (4, ov_i v18)]) (st2 := [ov_r 70]) (pc2 := 101) b_99_100_1 rfl rfl ?_
            refine ov_getf (v := ov_r 72) d_99_101 fl_Town_15 (zb_70 I) (zs_70 I) (congrArg ov_r (rg_70_3 I)) ?_
            refine ov_blk (ls2 := [(0, ov_r 70), (1, ov_i c), (2, ov_i way), (3, ov_i s), (4, ov_i v18)]) (st2 := [ov_i c, ov_r 72]) (pc2 := 105) b_99_104_1 rfl rfl ?_
            refine ov_iald d_99_105 (zb_72 I) (zs_72 I) (by omega) ?_
            refine ov_blk (ls2 := [(0, ov_r 70), (1, ov_i c), (2, ov_i way), (3, ov_i s), (4, ov_i v18)]) (st2 := [ov_i ((h 72 c) - v18)]) (pc2 := 109) b_99_106_2 rfl rfl ?_
            refine ov_goto (tgt := 113) d_99_109 (by decide) ?_
            exact ov_reti (st := []) d_99_113 rfl ⟨_, rfl, rfl, rfl, (by show ((h 72 c) - v18) = ov_wtv (h 71 c) (h 72 c) (h 73 c) (h 74 c) way s ∧ 0 ≤ ((h 72 c) - v18) ∧ ((h 72 c) - v18) ≤ 60; refine ⟨?_, by omega⟩; unfold ov_wtv ov_since; repeat' split; all_goals omega)⟩
        · skip
          refine ov_blk (ls2 := [(0, ov_r 70), (1, ov_i c), (2, ov_i way), (3, ov_i s), (4, ov_i v18)]) (st2 := [ov_i way]) (pc2 := 79) b_99_78_1 rfl rfl ?_
          refine ov_ifne (tgt := 86) d_99_79 (by decide) (by omega) (fun c24 => ?_) (fun c24 => ?_)
          · skip
            refine ov_blk (ls2 := [(0, ov_r 70), (1, ov_i c), (2, ov_i way), (3, ov_i s), (4, ov_i v18)]) (st2 := [ov_r 70]) (pc2 := 87) b_99_86_1 rfl rfl ?_
            refine ov_getf (v := ov_r 74) d_99_87 fl_Town_21 (zb_70 I) (zs_70 I) (congrArg ov_r (rg_70_5 I)) ?_
            refine ov_blk (ls2 := [(0, ov_r 70), (1, ov_i c), (2, ov_i way), (3, ov_i s), (4, ov_i v18)]) (st2 := [ov_i c, ov_r 74]) (pc2 := 91) b_99_90_1 rfl rfl ?_
            refine ov_iald d_99_91 (zb_74 I) (zs_74 I) (by omega) ?_
            refine ov_blk (ls2 := [(0, ov_r 70), (1, ov_i c), (2, ov_i way), (3, ov_i s), (4, ov_i v18)]) (st2 := [ov_i ((h 74 c) - v18)]) (pc2 := 95) b_99_92_2 rfl rfl ?_
            exact ov_reti (st := []) d_99_95 rfl ⟨_, rfl, rfl, rfl, (by show ((h 74 c) - v18) = ov_wtv (h 71 c) (h 72 c) (h 73 c) (h 74 c) way s ∧ 0 ≤ ((h 74 c) - v18) ∧ ((h 74 c) - v18) ≤ 60; refine ⟨?_, by omega⟩; unfold ov_wtv ov_since; repeat' split; all_goals omega)⟩
          · skip
            refine ov_blk (ls2 := [(0, ov_r 70), (1, ov_i c), (2, ov_i way), (3, ov_i s), (4, ov_i v18)]) (st2 := [ov_i 0]) (pc2 := 83) b_99_82_1 rfl rfl ?_
            refine ov_goto (tgt := 95) d_99_83 (by decide) ?_
            exact ov_reti (st := []) d_99_95 rfl ⟨_, rfl, rfl, rfl, (by show 0 = ov_wtv (h 71 c) (h 72 c) (h 73 c) (h 74 c) way s ∧ 0 ≤ 0 ∧ 0 ≤ 60; refine ⟨?_, by omega⟩; unfold ov_wtv ov_since; repeat' split; all_goals omega)⟩
    · skip
      refine ov_blk (ls2 := [(0, ov_r 70), (1, ov_i c), (2, ov_i way), (3, ov_i s)]) (st2 := [ov_i 0]) (pc2 := 34) b_99_33_1 rfl rfl ?_
      exact ov_reti (st := []) d_99_34 rfl ⟨_, rfl, rfl, rfl, (by show 0 = ov_wtv (h 71 c) (h 72 c) (h 73 c) (h 74 c) way s ∧ 0 ≤ 0 ∧ 0 ≤ 60; refine ⟨?_, by omega⟩; unfold ov_wtv ov_since; repeat' split; all_goals omega)⟩
  · skip
    refine ov_blk (ls2 := [(0, ov_r 70), (1, ov_i c), (2, ov_i way), (3, ov_i s)]) (st2 := [ov_i way]) (pc2 := 11) b_99_10_1 rfl rfl ?_
    refine ov_ifne (tgt := 23) d_99_11 (by decide) (by omega) (fun c26 => ?_) (fun c26 => ?_)
    · skip
      refine ov_blk (ls2 := [(0, ov_r 70), (1, ov_i c), (2, ov_i way), (3, ov_i s)]) (st2 := [ov_i 0]) (pc2 := 24) b_99_23_1 rfl rfl ?_
      exact ov_reti (st := []) d_99_24 rfl ⟨_, rfl, rfl, rfl, (by show 0 = ov_wtv (h 71 c) (h 72 c) (h 73 c) (h 74 c) way s ∧ 0 ≤ 0 ∧ 0 ≤ 60; refine ⟨?_, by omega⟩; unfold ov_wtv ov_since; repeat' split; all_goals omega)⟩
    · skip
      refine ov_blk (ls2 := [(0, ov_r 70), (1, ov_i c), (2, ov_i way), (3, ov_i s)]) (st2 := [ov_r 70]) (pc2 := 15) b_99_14_1 rfl rfl ?_
      refine ov_getf (v := ov_r 73) d_99_15 fl_Town_18 (zb_70 I) (zs_70 I) (congrArg ov_r (rg_70_4 I)) ?_
      refine ov_blk (ls2 := [(0, ov_r 70), (1, ov_i c), (2, ov_i way), (3, ov_i s)]) (st2 := [ov_i c, ov_r 73]) (pc2 := 19) b_99_18_1 rfl rfl ?_
      refine ov_iald d_99_19 (zb_73 I) (zs_73 I) (by omega) ?_
      have g27 := ra_73 I c
      refine ov_goto (tgt := 24) d_99_20 (by decide) ?_
      exact ov_reti (st := []) d_99_24 rfl ⟨_, rfl, rfl, rfl, (by show (h 73 c) = ov_wtv (h 71 c) (h 72 c) (h 73 c) (h 74 c) way s ∧ 0 ≤ (h 73 c) ∧ (h 73 c) ≤ 60; refine ⟨?_, by omega⟩; unfold ov_wtv ov_since; repeat' split; all_goals omega)⟩
abbrev P_Ways_afterStreet_46_k46_3_70_b (F : ov_H) (z : ov_Z) (h : ov_H) (c : Int) (way : Int) (s : Int) : Option ov_V → ov_Z → ov_H → Prop := fun r0 z' h' => ∃ r : Int, r0 = some (ov_i r) ∧ z = z' ∧ h = h' ∧ (r = s + ov_wtv (h 71 c) (h 72 c) (h 73 c) (h 74 c) way s + (h 76 0) ∧ -1 ≤ r ∧ r ≤ 1100090)
set_option maxHeartbeats 4000000 in
theorem c_Ways_afterStreet_46_k46_3_70_b {u : ov_U} {F : ov_H} {z : ov_Z} {h : ov_H} (d : Nat) (hd : 2 ≤ d) (U : ov_cap u) (I : ov_I F z h) (c : Int) (way : Int) (s : Int) (k0 : h 46 3 = 70) (g_c : ov_g c) (g_way : ov_g way) (g_s : ov_g s) (p0 : 0 ≤ c ∧ c ≤ 53) (p1 : 0 ≤ s ∧ s ≤ 1100000) : ov_T u d ov_m117 [ov_r 46, ov_i c, ov_i way, ov_i s] z h (P_Ways_afterStreet_46_k46_3_70_b F z h c way s) := by
  refine ov_en rfl (Nat.le_of_ble_eq_true rfl) ?_
  show ov_R u d ov_m117 0 [(0, ov_r 46), (1, ov_i c), (2, ov_i way), (3, ov_i s)] [] z h (P_Ways_afterStreet_46_k46_3_70_b F z h c way s)
  refine ov_blk (ls2 := [(0, ov_r 46), (1, ov_i c), (2, ov_i way), (3, ov_i s)]) (st2 := [ov_r 46, ov_i s]) (pc2 := 2) b_117_0_2 rfl rfl ?_
  refine ov_getf (v := ov_r 70) d_117_2 fl_Ways_18 (zb_46 I) (zs_46 I) (congrArg ov_r k0) ?_
  refine ov_blk (ls2 := [(0, ov_r 46), (1, ov_i c), (2, ov_i way), (3, ov_i s)]) (st2 := [ov_i s, ov_i way, ov_i c, ov_r 70, ov_i s]) (pc2 := 8) b_117_5_3 rfl rfl ?_
  refine ov_cV (as := [ov_i c, ov_i way, ov_i s]) (st := [ov_i s]) (d2 := d - 1) d_117_8 lk_Ways_53 rfl (Nat.le_of_ble_eq_true rfl) (c := 9) (zb_70 I) (zs_70 I) ⟨by decide, rfl⟩ (by omega) (c_Town_waitFor_70_b (d - 1) (by omega) U I c way s (by omega) (by omega) (by omega) (by omega) (by omega)) ?_
  rintro _ _ _ ⟨v2, rfl, rfl, rfl, f1⟩
  show ov_R u d ov_m117 11 [(0, ov_r 46), (1, ov_i c), (2, ov_i way), (3, ov_i s)] [ov_i v2, ov_i s] z h (P_Ways_afterStreet_46_k46_3_70_b F z h c way s)
  have f3 : v2 = ov_wtv (h 71 c) (h 72 c) (h 73 c) (h 74 c) way s ∧ 0 ≤ v2 ∧ v2 ≤ 60 := f1
  clear f1
  refine ov_blk (ls2 := [(0, ov_r 46), (1, ov_i c), (2, ov_i way), (3, ov_i s)]) (st2 := [ov_r 46, ov_i (s + v2)]) (pc2 := 13) b_117_11_2 rfl rfl ?_
  refine ov_getf (v := ov_r 70) d_117_13 fl_Ways_18 (zb_46 I) (zs_46 I) (congrArg ov_r k0) ?_
  refine ov_getf (v := ov_r 76) d_117_16 fl_Ways_56 (zb_70 I) (zs_70 I) (congrArg ov_r (rg_70_7 I)) ?_
  refine ov_blk (ls2 := [(0, ov_r 46), (1, ov_i c), (2, ov_i way), (3, ov_i s)]) (st2 := [ov_i 0, ov_r 76, ov_i (s + v2)]) (pc2 := 20) b_117_19_1 rfl rfl ?_
  refine ov_iald d_117_20 (zb_76 I) (zs_76 I) (by omega) ?_
  have g4 := ra_76 I 0
  refine ov_blk (ls2 := [(0, ov_r 46), (1, ov_i c), (2, ov_i way), (3, ov_i s)]) (st2 := [ov_i ((s + v2) + (h 76 0))]) (pc2 := 22) b_117_21_1 rfl rfl ?_
  exact ov_reti (st := []) d_117_22 rfl ⟨_, rfl, rfl, rfl, (by show ((s + v2) + (h 76 0)) = s + ov_wtv (h 71 c) (h 72 c) (h 73 c) (h 74 c) way s + (h 76 0) ∧ -1 ≤ ((s + v2) + (h 76 0)) ∧ ((s + v2) + (h 76 0)) ≤ 1100090; omega)⟩
abbrev P_fill47b (F : ov_H) (z : ov_Z) (h : ov_H) (v : Int) : Option ov_V → ov_Z → ov_H → Prop := fun r0 z' h' => r0 = none ∧ z = z' ∧ ov_I F z' h' ∧ (∀ a : Int, a ≠ 47 → h' a = h a) ∧ ∀ j : Int, 0 ≤ j → j < 54 → h' 47 j = v
set_option maxHeartbeats 4000000 in
theorem c_fill47b {u : ov_U} {F : ov_H} {z : ov_Z} {h : ov_H} (d : Nat) (hd : 0 ≤ d) (U : ov_cap u) (I : ov_I F z h) (v : Int) (g_v : ov_g v) : ov_T u d ov_m14 [ov_r 47, ov_i v] z h (P_fill47b F z h v) := by
  refine ov_en rfl (Nat.le_of_ble_eq_true rfl) ?_
  show ov_R u d ov_m14 0 [(0, ov_r 47), (1, ov_i v)] [] z h (P_fill47b F z h v)
  refine ov_blk (ls2 := [(0, ov_r 47), (1, ov_i v), (2, ov_i 0)]) (st2 := [ov_r 47]) (pc2 := 3) b_14_0_3 rfl rfl ?_
  refine ov_alen d_14_3 (zb_47 I) (zs_47 I) (by decide) ?_
  show ov_R u d ov_m14 4 [(0, ov_r 47), (1, ov_i v), (2, ov_i 0)] [ov_i 54] z h (P_fill47b F z h v)
  refine ov_blk (ls2 := [(0, ov_r 47), (1, ov_i v), (2, ov_i 0), (3, ov_i 54)]) (st2 := []) (pc2 := 5) b_14_4_1 rfl rfl ?_
  have L4 : ∀ (n1 : Nat) (x2 : Int) (h6 : ov_H) (I7 : ov_I F z h6) (E6 : ∀ a : Int, a ≠ 47 → h6 a = h a) (A6 : ∀ j : Int, 0 ≤ j → j < x2 → h6 47 j = v) (q3 : 0 ≤ x2 ∧ x2 ≤ 54), 54 - x2 < (n1 : Int) → ov_R u d ov_m14 5 [(0, ov_r 47), (1, ov_i v), (2, ov_i x2), (3, ov_i 54)] [] z h6 (P_fill47b F z h v) := by
    intro n1
    induction n1 with
    | zero =>
      intro x2 h6 I7 E6 A6 q3 hn8
      exact absurd hn8 (by omega)
    | succ n1 ih2 =>
      intro x2 h6 I7 E6 A6 q3 hn8
      refine ov_blk (ls2 := [(0, ov_r 47), (1, ov_i v), (2, ov_i x2), (3, ov_i 54)]) (st2 := [ov_i 54, ov_i x2]) (pc2 := 7) b_14_5_2 rfl rfl ?_
      refine ov_icge (tgt := 20) d_14_7 (by decide) (by omega) (by omega) (fun c9 => ?_) (fun c9 => ?_)
      · skip
        exact ov_retv (st := []) d_14_20 rfl ⟨rfl, rfl, I7, E6, fun j h0 h1 => A6 j h0 (by omega)⟩
      · skip
        refine ov_blk (ls2 := [(0, ov_r 47), (1, ov_i v), (2, ov_i x2), (3, ov_i 54)]) (st2 := [ov_i v, ov_i x2, ov_r 47]) (pc2 := 13) b_14_10_3 rfl rfl ?_
        refine ov_iast d_14_13 (zb_47 I7) (zs_47 I7) (by omega) ?_
        have I10 := ua_47 (k := x2) (x := v) I7 (by omega)
        refine ov_blk (ls2 := [(0, ov_r 47), (1, ov_i v), (2, ov_i (x2 + 1)), (3, ov_i 54)]) (st2 := []) (pc2 := 17) b_14_14_1 rfl rfl ?_
        refine ov_goto (tgt := 5) d_14_17 (by decide) ?_
        refine ih2 (x2 + 1) _ I10 (fun a ha => by rw [ov_up_ne ha]; exact E6 a ha) (fun j h0 h1 => ?_) (by omega) (by omega)
        by_cases hj : j = x2
        · exact ov_uj.1 hj
        · rw [ov_uj.2 hj]
          exact A6 j h0 (by omega)
  exact L4 55 0 h I (fun _ _ => rfl) (fun j h0 h1 => by omega) (by omega) (by omega)
abbrev P_passb_58 (F : ov_H) (z : ov_Z) (h : ov_H) (c : Int) (way : Int) : Option ov_V → ov_Z → ov_H → Prop := fun r0 z' h' => r0 = none ∧ z = z' ∧ ov_I F z' h' ∧ (∀ a : Int, a ≠ 47 → h' a = h a) ∧ ov_PA (ov_tw58 h) c way (h 47) (h' 47)
set_option maxHeartbeats 4000000 in
theorem c_passb_58 {u : ov_U} {F : ov_H} {z : ov_Z} {h : ov_H} (d : Nat) (hd : 3 ≤ d) (U : ov_cap u) (I : ov_I F z h) (c : Int) (way : Int) (k0 : h 46 3 = 58) (p0 : 0 ≤ c ∧ c ≤ 53) (p1 : way = 0 ∨ way = 1) (p2 : 0 ≤ h 47 c ∧ h 47 c ≤ 1100000) (p3 : 0 ≤ h 64 0) (pf : F (-5) 58 = 1) : ov_T u d ov_m116 [ov_r 46, ov_i c, ov_i way] z h (P_passb_58 F z h c way) := by
  refine ov_en rfl (Nat.le_of_ble_eq_true rfl) ?_
  show ov_R u d ov_m116 0 [(0, ov_r 46), (1, ov_i c), (2, ov_i way)] [] z h (P_passb_58 F z h c way)
  refine ov_blk (ls2 := [(0, ov_r 46), (1, ov_i c), (2, ov_i way)]) (st2 := [ov_r 46]) (pc2 := 1) b_116_0_1 rfl rfl ?_
  refine ov_getf (v := ov_r 58) d_116_1 fl_Ways_18 (zb_46 I) (zs_46 I) (congrArg ov_r k0) ?_
  refine ov_blk (ls2 := [(0, ov_r 46), (1, ov_i c), (2, ov_i way)]) (st2 := [ov_i way, ov_i c, ov_r 58]) (pc2 := 6) b_116_4_2 rfl rfl ?_
  refine ov_cV (as := [ov_i c, ov_i way]) (st := []) (d2 := d - 1) d_116_6 lk_Ways_38 rfl (Nat.le_of_ble_eq_true rfl) (c := 9) (zb_58 I) (zs_58 I) ⟨by decide, rfl⟩ (by omega) (c_Town_isOpen_58_b (d - 1) (by omega) U I c way (by omega) (by omega) (by omega)) ?_
  rintro _ _ _ ⟨v2, rfl, rfl, rfl, f1⟩
  show ov_R u d ov_m116 9 [(0, ov_r 46), (1, ov_i c), (2, ov_i way)] [ov_i v2] z h (P_passb_58 F z h c way)
  have f3 : (v2 = 0 ∨ v2 = 1) ∧ (way = 0 → v2 = h 65 c % 2) ∧ (way = 1 → v2 = h 65 c / 2) := f1
  clear f1
  have O := ov_ok58 I p3 pf
  have hob : ov_ob (ov_tw58 h) c way = v2 := by
    rcases p1 with e | e
    · rw [e, ov_ob0]
      exact (f3.2.1 e).symm
    · rw [e, ov_ob1]
      exact (f3.2.2 e).symm
  refine ov_ifeq (tgt := 49) d_116_9 (by decide) (by omega) (fun c4 => ?_) (fun c4 => ?_)
  · skip
    exact ov_retv (st := []) d_116_49 rfl ⟨rfl, rfl, I, fun _ _ => rfl, fun _ _ => rfl, fun q => by omega, fun _ => rfl⟩
  · skip
    have hno := ov_nxc_le O p0 p1 (by omega)
    refine ov_blk (ls2 := [(0, ov_r 46), (1, ov_i c), (2, ov_i way)]) (st2 := [ov_r 46]) (pc2 := 13) b_116_12_1 rfl rfl ?_
    refine ov_getf (v := ov_r 58) d_116_13 fl_Ways_18 (zb_46 I) (zs_46 I) (congrArg ov_r k0) ?_
    refine ov_blk (ls2 := [(0, ov_r 46), (1, ov_i c), (2, ov_i way)]) (st2 := [ov_i way, ov_i c, ov_r 58]) (pc2 := 18) b_116_16_2 rfl rfl ?_
    refine ov_cV (as := [ov_i c, ov_i way]) (st := []) (d2 := d - 1) d_116_18 lk_Ways_42 rfl (Nat.le_of_ble_eq_true rfl) (c := 9) (zb_58 I) (zs_58 I) ⟨by decide, rfl⟩ (by omega) (c_Town_after_58 (d - 1) (by omega) U I c way (by omega) (by omega) (by omega)) ?_
    rintro _ _ _ ⟨v6, rfl, rfl, rfl, f5⟩
    show ov_R u d ov_m116 21 [(0, ov_r 46), (1, ov_i c), (2, ov_i way)] [ov_i v6] z h (P_passb_58 F z h c way)
    have f7 : (way = 0 → v6 = c + 1) ∧ (¬ way = 0 → v6 = c + 6) := f5
    clear f5
    have hnx : ov_nxc c way = v6 := by
      rcases p1 with e | e
      · rw [e, f7.1 e]
        rfl
      · rw [f7.2 (by omega), e]
        rfl
    refine ov_blk (ls2 := [(0, ov_r 46), (1, ov_i c), (2, ov_i way), (3, ov_i v6)]) (st2 := [ov_r 46]) (pc2 := 23) b_116_21_2 rfl rfl ?_
    refine ov_getf (v := ov_r 47) d_116_23 fl_Ways_9 (zb_46 I) (zs_46 I) (congrArg ov_r (rg_46_5 I)) ?_
    refine ov_blk (ls2 := [(0, ov_r 46), (1, ov_i c), (2, ov_i way), (3, ov_i v6)]) (st2 := [ov_r 46, ov_i v6, ov_r 47]) (pc2 := 28) b_116_26_2 rfl rfl ?_
    refine ov_getf (v := ov_r 47) d_116_28 fl_Ways_9 (zb_46 I) (zs_46 I) (congrArg ov_r (rg_46_5 I)) ?_
    refine ov_blk (ls2 := [(0, ov_r 46), (1, ov_i c), (2, ov_i way), (3, ov_i v6)]) (st2 := [ov_i v6, ov_r 47, ov_i v6, ov_r 47]) (pc2 := 32) b_116_31_1 rfl rfl ?_
    refine ov_iald d_116_32 (zb_47 I) (zs_47 I) (by omega) ?_
    have g8 := ra_47 I v6
    refine ov_blk (ls2 := [(0, ov_r 46), (1, ov_i c), (2, ov_i way), (3, ov_i v6)]) (st2 := [ov_r 46, ov_i way, ov_i c, ov_r 46, ov_i (h 47 v6), ov_i v6, ov_r 47]) (pc2 := 37) b_116_33_4 rfl rfl ?_
    refine ov_getf (v := ov_r 47) d_116_37 fl_Ways_9 (zb_46 I) (zs_46 I) (congrArg ov_r (rg_46_5 I)) ?_
    refine ov_blk (ls2 := [(0, ov_r 46), (1, ov_i c), (2, ov_i way), (3, ov_i v6)]) (st2 := [ov_i c, ov_r 47, ov_i way, ov_i c, ov_r 46, ov_i (h 47 v6), ov_i v6, ov_r 47]) (pc2 := 41) b_116_40_1 rfl rfl ?_
    refine ov_iald d_116_41 (zb_47 I) (zs_47 I) (by omega) ?_
    refine ov_cV (as := [ov_i c, ov_i way, ov_i (h 47 c)]) (st := [ov_i (h 47 v6), ov_i v6, ov_r 47]) (d2 := d - 1) d_116_42 lk_Ways_46 rfl (Nat.le_of_ble_eq_true rfl) (c := 12) (zb_46 I) (zs_46 I) ⟨by decide, rfl⟩ (by omega) (c_Ways_afterStreet_46_k46_3_58_b (d - 1) (by omega) U I c way (h 47 c) k0 (by omega) (by omega) (by omega) (by omega) (by omega)) ?_
    rintro _ _ _ ⟨v11, rfl, rfl, rfl, f10⟩
    show ov_R u d ov_m116 45 [(0, ov_r 46), (1, ov_i c), (2, ov_i way), (3, ov_i v6)] [ov_i v11, ov_i (h 47 v6), ov_i v6, ov_r 47] z h (P_passb_58 F z h c way)
    have f12 : v11 = ov_fwc (ov_tw58 h) c way (h 47 c) := f10.1
    have f13 : -1 ≤ v11 ∧ v11 ≤ 1100090 := f10.2
    clear f10
    refine ov_cSN (as := [ov_i (h 47 v6), ov_i v11]) (st := [ov_i v6, ov_r 47]) (d2 := d - 1) d_116_45 lk_Ways_50 rfl (Nat.le_of_ble_eq_true rfl) (by omega) (c_OF_lesser_b (d - 1) (by omega) U I (h 47 v6) v11 (by omega) (by omega)) ?_
    rintro _ _ _ ⟨v14, rfl, rfl, rfl, f14⟩
    show ov_R u d ov_m116 48 [(0, ov_r 46), (1, ov_i c), (2, ov_i way), (3, ov_i v6)] [ov_i v14, ov_i v6, ov_r 47] z h (P_passb_58 F z h c way)
    have f15 : v14 = ov_les (h 47 v6) v11 := ov_les_of f14
    have f16 : v14 = h 47 v6 ∨ v14 = v11 := by have := f14; omega
    clear f14
    refine ov_iast d_116_48 (zb_47 I) (zs_47 I) (by omega) ?_
    have I16 := ua_47 (k := v6) (x := v14) I (by omega)
    refine ov_retv (st := []) d_116_49 rfl ⟨rfl, rfl, I16, fun a ha => ov_up_ne ha, fun j hj => ov_uj.2 (by rw [hnx] at hj; exact hj), fun _ => ?_, fun q => by omega⟩
    rw [hnx]
    show ov_up h 47 v6 v14 47 v6 = ov_les (h 47 v6) (ov_fwc (ov_tw58 h) c way (h 47 c))
    rw [ov_uj.1 rfl, f15, f12]
abbrev P_arrb_58 (F : ov_H) (z : ov_Z) (h : ov_H) (c : Int) (s : Int) : Option ov_V → ov_Z → ov_H → Prop := fun r0 z' h' => ∃ r : Int, r0 = some (ov_i r) ∧ z = z' ∧ ov_I F z' h' ∧ (∀ a : Int, a ≠ 46 → a ≠ 47 → h' a = h a) ∧ (∀ k : Int, k ≠ 3 → h' 46 k = h 46 k) ∧ h' 46 3 = 58 ∧ ((r = -1 ∧ ov_SA (ov_tw58 h) c s = 2000000000) ∨ (r = ov_SA (ov_tw58 h) c s ∧ 0 ≤ r ∧ r ≤ 1012000))
set_option maxHeartbeats 4000000 in
theorem c_arrb_58 {u : ov_U} {F : ov_H} {z : ov_Z} {h : ov_H} (d : Nat) (hd : 4 ≤ d) (U : ov_cap u) (I : ov_I F z h) (c : Int) (s : Int) (p0 : 0 ≤ c ∧ c ≤ 53) (p1 : 0 ≤ s ∧ s ≤ 1002000 + 90 * c) (p2 : 0 ≤ h 64 0) (pf : F (-5) 58 = 1) : ov_T u d ov_m114 [ov_r 46, ov_r 58, ov_i c, ov_i s] z h (P_arrb_58 F z h c s) := by
  have O := ov_ok58 I p2 pf
  have hm := O.2.2.2.2.1
  refine ov_en rfl (Nat.le_of_ble_eq_true rfl) ?_
  show ov_R u d ov_m114 0 [(0, ov_r 46), (1, ov_r 58), (2, ov_i c), (3, ov_i s)] [] z h (P_arrb_58 F z h c s)
  refine ov_blk (ls2 := [(0, ov_r 46), (1, ov_r 58), (2, ov_i c), (3, ov_i s)]) (st2 := [ov_r 58, ov_r 46]) (pc2 := 2) b_114_0_2 rfl rfl ?_
  refine ov_putf (x := 58) d_114_2 fl_Ways_18 (zb_46 I) (zs_46 I) rfl nk_2 rfl ?_
  have I1 := up_46_3 (x := 58) I (by omega)
  refine ov_blk (ls2 := [(0, ov_r 46), (1, ov_r 58), (2, ov_i c), (3, ov_i s)]) (st2 := [ov_r 46]) (pc2 := 6) b_114_5_1 rfl rfl ?_
  refine ov_getf (v := ov_r 47) d_114_6 fl_Ways_9 (zb_46 I1) (zs_46 I1) (congrArg ov_r (rg_46_5 I1)) ?_
  refine ov_blk (ls2 := [(0, ov_r 46), (1, ov_r 58), (2, ov_i c), (3, ov_i s)]) (st2 := [ov_i (-1), ov_r 47]) (pc2 := 10) b_114_9_1 rfl rfl ?_
  refine ov_cS (as := [ov_r 47, ov_i (-1)]) (st := []) (d2 := d - 1) d_114_10 lk_Ways_22 rfl (Nat.le_of_ble_eq_true rfl) (by omega) (c_fill47b (d - 1) (by omega) U I1 (-1) (by omega)) ?_
  rintro _ _ h4 ⟨rfl, rfl, I5, E4, A4⟩
  show ov_R u d ov_m114 13 [(0, ov_r 46), (1, ov_r 58), (2, ov_i c), (3, ov_i s)] [] z h4 (P_arrb_58 F z h c s)
  have F4 : ∀ a : Int, a ≠ 46 → a ≠ 47 → h4 a = h a := fun a h1 h2 => by rw [E4 a h2]; exact ov_up_ne h1
  have G4 : ∀ k : Int, k ≠ 3 → h4 46 k = h 46 k := fun k hk => by rw [E4 46 (by decide)]; exact ov_uj.2 hk
  have e7 : h4 46 3 = 58 := by rw [E4 46 (by decide)]; exact ov_uj.1 rfl
  refine ov_blk (ls2 := [(0, ov_r 46), (1, ov_r 58), (2, ov_i c), (3, ov_i s)]) (st2 := [ov_r 46]) (pc2 := 14) b_114_13_1 rfl rfl ?_
  refine ov_getf (v := ov_r 47) d_114_14 fl_Ways_9 (zb_46 I5) (zs_46 I5) (congrArg ov_r (rg_46_5 I5)) ?_
  refine ov_blk (ls2 := [(0, ov_r 46), (1, ov_r 58), (2, ov_i c), (3, ov_i s)]) (st2 := [ov_i s, ov_i c, ov_r 47]) (pc2 := 19) b_114_17_2 rfl rfl ?_
  refine ov_iast d_114_19 (zb_47 I5) (zs_47 I5) (by omega) ?_
  have I8 := ua_47 (k := c) (x := s) I5 (by omega)
  have F8 : ∀ a : Int, a ≠ 46 → a ≠ 47 → ov_up h4 47 c s a = h a := fun a h1 h2 => by rw [ov_up_ne h2]; exact F4 a h1 h2
  have G8 : ∀ k : Int, k ≠ 3 → ov_up h4 47 c s 46 k = h 46 k := fun k hk => by rw [ov_up_ne (by decide)]; exact G4 k hk
  have e8 : ov_up h4 47 c s 46 3 = 58 := by rw [ov_up_ne (by decide)]; exact e7
  have B8 : ∀ j : Int, (j = c → ov_up h4 47 c s 47 j = s) ∧ (j ≠ c → 0 ≤ j → j ≤ 53 → ov_up h4 47 c s 47 j = -1) := fun j => ⟨fun e => ov_uj.1 e, fun e h0 h1 => by rw [ov_uj.2 e]; exact A4 j h0 (by omega)⟩
  generalize ov_up h4 47 c s = h8 at I8 F8 G8 e8 B8 ⊢
  refine ov_blk (ls2 := [(0, ov_r 46), (1, ov_r 58), (2, ov_i c), (3, ov_i s)]) (st2 := [ov_r 46]) (pc2 := 21) b_114_20_1 rfl rfl ?_
  refine ov_getf (v := ov_r 58) d_114_21 fl_Ways_18 (zb_46 I8) (zs_46 I8) (congrArg ov_r e8) ?_
  refine ov_cV (as := []) (st := []) (d2 := d - 1) d_114_24 lk_Ways_28 rfl (Nat.le_of_ble_eq_true rfl) (c := 9) (zb_58 I8) (zs_58 I8) ⟨by decide, rfl⟩ (by omega) (c_Town_home_58 (d - 1) (by omega) U I8 pf) ?_
  rintro _ _ _ ⟨v10, rfl, rfl, rfl, f9⟩
  show ov_R u d ov_m114 27 [(0, ov_r 46), (1, ov_r 58), (2, ov_i c), (3, ov_i s)] [ov_i v10] z h8 (P_arrb_58 F z h c s)
  have hv : v10 = ov_hmf (ov_tw58 h) := by
    have q : v10 = ov_hmf (ov_tw58 h8) := f9.1
    rw [ov_tw58_eq F8] at q
    exact q
  clear f9
  subst hv
  have hL0 : ov_AL (ov_tw58 h) (ov_SA (ov_tw58 h) c s) c (h8 47) := fun j h0 h1 => by
    by_cases hj : j = c
    · rw [(B8 j).1 hj, hj]
      exact Or.inr ⟨p1.1, p1.2, Int.le_refl _⟩
    · exact Or.inl ((B8 j).2 hj (by omega) h1)
  have hX0 : ov_AX (ov_tw58 h) (ov_SA (ov_tw58 h) c s) c (h8 47) := Or.inr ⟨c, Int.le_refl _, p0.2, by rw [(B8 c).1 rfl]; omega, by rw [(B8 c).1 rfl]⟩
  have hH0 : c ≤ ov_hmf (ov_tw58 h) ∨ h8 47 (ov_hmf (ov_tw58 h)) = -1 ∧ ov_SA (ov_tw58 h) c s = 2000000000 := by
    by_cases hq : c ≤ ov_hmf (ov_tw58 h)
    · exact Or.inl hq
    · exact Or.inr ⟨(B8 _).2 (by omega) hm.1 hm.2, ov_SA_far (by omega)⟩
  refine ov_blk (ls2 := [(0, ov_r 46), (1, ov_r 58), (2, ov_i c), (3, ov_i s), (4, ov_i (ov_hmf (ov_tw58 h))), (5, ov_i c)]) (st2 := []) (pc2 := 32) b_114_27_3 rfl rfl ?_
  have L15 : ∀ (n12 : Nat) (x5 : Int) (h17 : ov_H) (I18 : ov_I F z h17) (E17 : ∀ a : Int, a ≠ 46 → a ≠ 47 → h17 a = h a) (G17 : ∀ k : Int, k ≠ 3 → h17 46 k = h 46 k) (e20 : h17 46 3 = 58) (hL : ov_AL (ov_tw58 h) (ov_SA (ov_tw58 h) c s) x5 (h17 47)) (hX : ov_AX (ov_tw58 h) (ov_SA (ov_tw58 h) c s) x5 (h17 47)) (hH : x5 ≤ ov_hmf (ov_tw58 h) ∨ h17 47 (ov_hmf (ov_tw58 h)) = -1 ∧ ov_SA (ov_tw58 h) c s = 2000000000) (q14 : 0 ≤ x5 ∧ x5 ≤ 53), 53 - x5 < (n12 : Int) → ov_R u d ov_m114 32 [(0, ov_r 46), (1, ov_r 58), (2, ov_i c), (3, ov_i s), (4, ov_i (ov_hmf (ov_tw58 h))), (5, ov_i x5)] [] z h17 (P_arrb_58 F z h c s) := by
    intro n12
    induction n12 with
    | zero =>
      intro x5 h17 I18 E17 G17 e20 hL hX hH q14 hn19
      exact absurd hn19 (by omega)
    | succ n12 ih13 =>
      intro x5 h17 I18 E17 G17 e20 hL hX hH q14 hn19
      refine ov_blk (ls2 := [(0, ov_r 46), (1, ov_r 58), (2, ov_i c), (3, ov_i s), (4, ov_i (ov_hmf (ov_tw58 h))), (5, ov_i x5)]) (st2 := [ov_i (ov_hmf (ov_tw58 h)), ov_i x5]) (pc2 := 36) b_114_32_2 rfl rfl ?_
      refine ov_icge (tgt := 70) d_114_36 (by decide) (by omega) (by omega) (fun c21 => ?_) (fun c21 => ?_)
      · skip
        refine ov_blk (ls2 := [(0, ov_r 46), (1, ov_r 58), (2, ov_i c), (3, ov_i s), (4, ov_i (ov_hmf (ov_tw58 h))), (5, ov_i x5)]) (st2 := [ov_r 46]) (pc2 := 71) b_114_70_1 rfl rfl ?_
        refine ov_getf (v := ov_r 47) d_114_71 fl_Ways_9 (zb_46 I18) (zs_46 I18) (congrArg ov_r (rg_46_5 I18)) ?_
        refine ov_blk (ls2 := [(0, ov_r 46), (1, ov_r 58), (2, ov_i c), (3, ov_i s), (4, ov_i (ov_hmf (ov_tw58 h))), (5, ov_i x5)]) (st2 := [ov_i (ov_hmf (ov_tw58 h)), ov_r 47]) (pc2 := 76) b_114_74_1 rfl rfl ?_
        refine ov_iald d_114_76 (zb_47 I18) (zs_47 I18) (by omega) ?_
        exact ov_reti (st := []) d_114_77 rfl ⟨_, rfl, rfl, I18, E17, G17, e20, ov_PA_end O (by omega) hH rfl hL hX⟩
      · skip
        refine ov_blk (ls2 := [(0, ov_r 46), (1, ov_r 58), (2, ov_i c), (3, ov_i s), (4, ov_i (ov_hmf (ov_tw58 h))), (5, ov_i x5)]) (st2 := [ov_r 46]) (pc2 := 40) b_114_39_1 rfl rfl ?_
        refine ov_getf (v := ov_r 47) d_114_40 fl_Ways_9 (zb_46 I18) (zs_46 I18) (congrArg ov_r (rg_46_5 I18)) ?_
        refine ov_blk (ls2 := [(0, ov_r 46), (1, ov_r 58), (2, ov_i c), (3, ov_i s), (4, ov_i (ov_hmf (ov_tw58 h))), (5, ov_i x5)]) (st2 := [ov_i x5, ov_r 47]) (pc2 := 45) b_114_43_1 rfl rfl ?_
        refine ov_iald d_114_45 (zb_47 I18) (zs_47 I18) (by omega) ?_
        have g23 := ra_47 I18 x5
        refine ov_blk (ls2 := [(0, ov_r 46), (1, ov_r 58), (2, ov_i c), (3, ov_i s), (4, ov_i (ov_hmf (ov_tw58 h))), (5, ov_i x5)]) (st2 := [ov_i (-1), ov_i (h17 47 x5)]) (pc2 := 47) b_114_46_1 rfl rfl ?_
        refine ov_iceq (tgt := 64) d_114_47 (by decide) (by omega) (by omega) (fun c24 => ?_) (fun c24 => ?_)
        · skip
          have nn := ov_PA_none c24 hL hX
          refine ov_blk (ls2 := [(0, ov_r 46), (1, ov_r 58), (2, ov_i c), (3, ov_i s), (4, ov_i (ov_hmf (ov_tw58 h))), (5, ov_i (x5 + 1))]) (st2 := []) (pc2 := 67) b_114_64_1 rfl rfl ?_
          refine ov_goto (tgt := 32) d_114_67 (by decide) ?_
          exact ih13 (x5 + 1) _ I18 E17 G17 e20 nn.1 nn.2 (Or.inl (by omega)) (by omega) (by omega)
        · skip
          have l0 := (hL x5 (Int.le_refl _) q14.2).resolve_left c24
          have w17 : 0 ≤ h17 64 0 := by rw [E17 64 (by decide) (by decide)]; exact p2
          refine ov_blk (ls2 := [(0, ov_r 46), (1, ov_r 58), (2, ov_i c), (3, ov_i s), (4, ov_i (ov_hmf (ov_tw58 h))), (5, ov_i x5)]) (st2 := [ov_i 0, ov_i x5, ov_r 46]) (pc2 := 54) b_114_50_3 rfl rfl ?_
          refine ov_cV (as := [ov_i x5, ov_i 0]) (st := []) (d2 := d - 1) d_114_54 lk_Ways_34 rfl (Nat.le_of_ble_eq_true rfl) (c := 12) (zb_46 I18) (zs_46 I18) ⟨by decide, rfl⟩ (by omega) (c_passb_58 (d - 1) (by omega) U I18 x5 0 e20 (by omega) (Or.inl rfl) (by omega) w17 pf) ?_
          rintro _ _ h27 ⟨rfl, rfl, I28, E27, P27⟩
          show ov_R u d ov_m114 57 [(0, ov_r 46), (1, ov_r 58), (2, ov_i c), (3, ov_i s), (4, ov_i (ov_hmf (ov_tw58 h))), (5, ov_i x5)] [] z h27 (P_arrb_58 F z h c s)
          rw [ov_tw58_eq E17] at P27
          have F27 : ∀ a : Int, a ≠ 46 → a ≠ 47 → h27 a = h a := fun a h1 h2 => by rw [E27 a h2]; exact E17 a h1 h2
          have G27 : ∀ k : Int, k ≠ 3 → h27 46 k = h 46 k := fun k hk => by rw [E27 46 (by decide)]; exact G17 k hk
          have e30 : h27 46 3 = 58 := by rw [E27 46 (by decide)]; exact e20
          have w27 : 0 ≤ h27 64 0 := by rw [F27 64 (by decide) (by decide)]; exact p2
          have x27 : h27 47 x5 = h17 47 x5 := P27.1 x5 (by show x5 ≠ x5 + 1; omega)
          refine ov_blk (ls2 := [(0, ov_r 46), (1, ov_r 58), (2, ov_i c), (3, ov_i s), (4, ov_i (ov_hmf (ov_tw58 h))), (5, ov_i x5)]) (st2 := [ov_i 1, ov_i x5, ov_r 46]) (pc2 := 61) b_114_57_3 rfl rfl ?_
          refine ov_cV (as := [ov_i x5, ov_i 1]) (st := []) (d2 := d - 1) d_114_61 lk_Ways_34 rfl (Nat.le_of_ble_eq_true rfl) (c := 12) (zb_46 I28) (zs_46 I28) ⟨by decide, rfl⟩ (by omega) (c_passb_58 (d - 1) (by omega) U I28 x5 1 e30 (by omega) (Or.inr rfl) (by omega) w27 pf) ?_
          rintro _ _ h33 ⟨rfl, rfl, I34, E33, P33⟩
          show ov_R u d ov_m114 64 [(0, ov_r 46), (1, ov_r 58), (2, ov_i c), (3, ov_i s), (4, ov_i (ov_hmf (ov_tw58 h))), (5, ov_i x5)] [] z h33 (P_arrb_58 F z h c s)
          rw [ov_tw58_eq F27] at P33
          have F33 : ∀ a : Int, a ≠ 46 → a ≠ 47 → h33 a = h a := fun a h1 h2 => by rw [E33 a h2]; exact F27 a h1 h2
          have G33 : ∀ k : Int, k ≠ 3 → h33 46 k = h 46 k := fun k hk => by rw [E33 46 (by decide)]; exact G27 k hk
          have e36 : h33 46 3 = 58 := by rw [E33 46 (by decide)]; exact e30
          have nn := ov_PA_both O q14 (by omega) c24 hL hX P27 P33
          refine ov_blk (ls2 := [(0, ov_r 46), (1, ov_r 58), (2, ov_i c), (3, ov_i s), (4, ov_i (ov_hmf (ov_tw58 h))), (5, ov_i (x5 + 1))]) (st2 := []) (pc2 := 67) b_114_64_1 rfl rfl ?_
          refine ov_goto (tgt := 32) d_114_67 (by decide) ?_
          exact ih13 (x5 + 1) _ I34 F33 G33 e36 nn.1 nn.2 (Or.inl (by omega)) (by omega) (by omega)
  exact L15 55 c _ I8 F8 G8 e8 hL0 hX0 hH0 p0 (by omega)
abbrev P_asob_58 (F : ov_H) (z : ov_Z) (h : ov_H) (c : Int) (s : Int) (n : Int) : Option ov_V → ov_Z → ov_H → Prop := fun r0 z' h' => ∃ r : Int, r0 = some (ov_i r) ∧ z = z' ∧ ov_I F z' h' ∧ (∀ a : Int, a ≠ 46 → a ≠ 47 → h' a = h a) ∧ (∀ k : Int, k ≠ 3 → h' 46 k = h 46 k) ∧ h' 46 3 = 58 ∧ ((r = 1 ∧ ov_ob (ov_tw58 h) c 0 = 1 ∧ ov_SA (ov_tw58 h) (c + 1) (ov_fwc (ov_tw58 h) c 0 s) = n) ∨ (r = 0 ∧ ¬ (ov_ob (ov_tw58 h) c 0 = 1 ∧ ov_SA (ov_tw58 h) (c + 1) (ov_fwc (ov_tw58 h) c 0 s) = n)))
set_option maxHeartbeats 4000000 in
theorem c_asob_58 {u : ov_U} {F : ov_H} {z : ov_Z} {h : ov_H} (d : Nat) (hd : 5 ≤ d) (U : ov_cap u) (I : ov_I F z h) (c : Int) (s : Int) (n : Int) (k0 : h 46 3 = 58) (p0 : 0 ≤ c ∧ c ≤ 53) (p1 : 0 ≤ s ∧ s ≤ 1002000 + 90 * c) (p2 : 0 ≤ n ∧ n ≤ 1012000) (p3 : 0 ≤ h 64 0) (pf : F (-5) 58 = 1) : ov_T u d ov_m119 [ov_r 46, ov_i c, ov_i s, ov_i n] z h (P_asob_58 F z h c s n) := by
  have O := ov_ok58 I p3 pf
  refine ov_en rfl (Nat.le_of_ble_eq_true rfl) ?_
  show ov_R u d ov_m119 0 [(0, ov_r 46), (1, ov_i c), (2, ov_i s), (3, ov_i n)] [] z h (P_asob_58 F z h c s n)
  refine ov_blk (ls2 := [(0, ov_r 46), (1, ov_i c), (2, ov_i s), (3, ov_i n)]) (st2 := [ov_r 46]) (pc2 := 1) b_119_0_1 rfl rfl ?_
  refine ov_getf (v := ov_r 58) d_119_1 fl_Ways_18 (zb_46 I) (zs_46 I) (congrArg ov_r k0) ?_
  refine ov_blk (ls2 := [(0, ov_r 46), (1, ov_i c), (2, ov_i s), (3, ov_i n)]) (st2 := [ov_i 0, ov_i c, ov_r 58]) (pc2 := 6) b_119_4_2 rfl rfl ?_
  refine ov_cV (as := [ov_i c, ov_i 0]) (st := []) (d2 := d - 1) d_119_6 lk_Ways_38 rfl (Nat.le_of_ble_eq_true rfl) (c := 9) (zb_58 I) (zs_58 I) ⟨by decide, rfl⟩ (by omega) (c_Town_isOpen_58_b (d - 1) (by omega) U I c 0 (by omega) (by omega) (by omega)) ?_
  rintro _ _ _ ⟨v2, rfl, rfl, rfl, f1⟩
  show ov_R u d ov_m119 9 [(0, ov_r 46), (1, ov_i c), (2, ov_i s), (3, ov_i n)] [ov_i v2] z h (P_asob_58 F z h c s n)
  have hob : ov_ob (ov_tw58 h) c 0 = v2 := by
    rw [ov_ob0]
    exact (f1.2.1 rfl).symm
  have f3 : v2 = 0 ∨ v2 = 1 := f1.1
  clear f1
  refine ov_ifeq (tgt := 44) d_119_9 (by decide) (by omega) (fun c4 => ?_) (fun c4 => ?_)
  · skip
    refine ov_blk (ls2 := [(0, ov_r 46), (1, ov_i c), (2, ov_i s), (3, ov_i n)]) (st2 := [ov_i 0]) (pc2 := 45) b_119_44_1 rfl rfl ?_
    exact ov_retz (st := []) d_119_45 rfl (by omega) ⟨_, rfl, rfl, I, fun _ _ _ => rfl, fun _ _ => rfl, k0, Or.inr ⟨rfl, fun q => by omega⟩⟩
  · skip
    have hno := ov_nxc_le O p0 (Or.inl rfl) (show ov_ob (ov_tw58 h) c 0 = 1 by omega)
    have hno1 : c + 1 ≤ 53 := hno.2
    have hfr := ov_fwc_rng O (c := c) (way := 0) (t := s)
    refine ov_blk (ls2 := [(0, ov_r 46), (1, ov_i c), (2, ov_i s), (3, ov_i n)]) (st2 := [ov_r 46, ov_r 46]) (pc2 := 14) b_119_12_2 rfl rfl ?_
    refine ov_getf (v := ov_r 58) d_119_14 fl_Ways_18 (zb_46 I) (zs_46 I) (congrArg ov_r k0) ?_
    refine ov_blk (ls2 := [(0, ov_r 46), (1, ov_i c), (2, ov_i s), (3, ov_i n)]) (st2 := [ov_r 46, ov_r 58, ov_r 46]) (pc2 := 18) b_119_17_1 rfl rfl ?_
    refine ov_getf (v := ov_r 58) d_119_18 fl_Ways_18 (zb_46 I) (zs_46 I) (congrArg ov_r k0) ?_
    refine ov_blk (ls2 := [(0, ov_r 46), (1, ov_i c), (2, ov_i s), (3, ov_i n)]) (st2 := [ov_i 0, ov_i c, ov_r 58, ov_r 58, ov_r 46]) (pc2 := 23) b_119_21_2 rfl rfl ?_
    refine ov_cV (as := [ov_i c, ov_i 0]) (st := [ov_r 58, ov_r 46]) (d2 := d - 1) d_119_23 lk_Ways_42 rfl (Nat.le_of_ble_eq_true rfl) (c := 9) (zb_58 I) (zs_58 I) ⟨by decide, rfl⟩ (by omega) (c_Town_after_58 (d - 1) (by omega) U I c 0 (by omega) (by omega) (by omega)) ?_
    rintro _ _ _ ⟨v6, rfl, rfl, rfl, f5⟩
    show ov_R u d ov_m119 26 [(0, ov_r 46), (1, ov_i c), (2, ov_i s), (3, ov_i n)] [ov_i v6, ov_r 58, ov_r 46] z h (P_asob_58 F z h c s n)
    have f7 : v6 = c + 1 := f5.1 rfl
    clear f5
    subst f7
    refine ov_blk (ls2 := [(0, ov_r 46), (1, ov_i c), (2, ov_i s), (3, ov_i n)]) (st2 := [ov_i s, ov_i 0, ov_i c, ov_r 46, ov_i (c + 1), ov_r 58, ov_r 46]) (pc2 := 30) b_119_26_4 rfl rfl ?_
    refine ov_cV (as := [ov_i c, ov_i 0, ov_i s]) (st := [ov_i (c + 1), ov_r 58, ov_r 46]) (d2 := d - 1) d_119_30 lk_Ways_46 rfl (Nat.le_of_ble_eq_true rfl) (c := 12) (zb_46 I) (zs_46 I) ⟨by decide, rfl⟩ (by omega) (c_Ways_afterStreet_46_k46_3_58_b (d - 1) (by omega) U I c 0 s k0 (by omega) (by omega) (by omega) (by omega) (by omega)) ?_
    rintro _ _ _ ⟨v9, rfl, rfl, rfl, f8⟩
    show ov_R u d ov_m119 33 [(0, ov_r 46), (1, ov_i c), (2, ov_i s), (3, ov_i n)] [ov_i v9, ov_i (c + 1), ov_r 58, ov_r 46] z h (P_asob_58 F z h c s n)
    have f10 : v9 = ov_fwc (ov_tw58 h) c 0 s := f8.1
    clear f8
    rw [← f10] at hfr
    refine ov_cV (as := [ov_r 58, ov_i (c + 1), ov_i v9]) (st := []) (d2 := d - 1) d_119_33 lk_Ways_59 rfl (Nat.le_of_ble_eq_true rfl) (c := 12) (zb_46 I) (zs_46 I) ⟨by decide, rfl⟩ (by omega) (c_arrb_58 (d - 1) (by omega) U I (c + 1) v9 (by omega) (by omega) p3 pf) ?_
    rintro _ _ h14 ⟨v12, rfl, rfl, I15, E14, G14, e14, f11⟩
    show ov_R u d ov_m119 36 [(0, ov_r 46), (1, ov_i c), (2, ov_i s), (3, ov_i n)] [ov_i v12] z h14 (P_asob_58 F z h c s n)
    rw [f10] at f11
    refine ov_blk (ls2 := [(0, ov_r 46), (1, ov_i c), (2, ov_i s), (3, ov_i n)]) (st2 := [ov_i n, ov_i v12]) (pc2 := 37) b_119_36_1 rfl rfl ?_
    refine ov_icne (tgt := 44) d_119_37 (by decide) (by omega) (by omega) (fun c18 => ?_) (fun c18 => ?_)
    · skip
      refine ov_blk (ls2 := [(0, ov_r 46), (1, ov_i c), (2, ov_i s), (3, ov_i n)]) (st2 := [ov_i 0]) (pc2 := 45) b_119_44_1 rfl rfl ?_
      exact ov_retz (st := []) d_119_45 rfl (by omega) ⟨_, rfl, rfl, I15, E14, G14, e14, Or.inr ⟨rfl, fun q => by omega⟩⟩
    · skip
      refine ov_blk (ls2 := [(0, ov_r 46), (1, ov_i c), (2, ov_i s), (3, ov_i n)]) (st2 := [ov_i 1]) (pc2 := 41) b_119_40_1 rfl rfl ?_
      refine ov_goto (tgt := 45) d_119_41 (by decide) ?_
      exact ov_retz (st := []) d_119_45 rfl (by omega) ⟨_, rfl, rfl, I15, E14, G14, e14, Or.inl ⟨rfl, by omega, by omega⟩⟩
abbrev P_passb_70 (F : ov_H) (z : ov_Z) (h : ov_H) (c : Int) (way : Int) : Option ov_V → ov_Z → ov_H → Prop := fun r0 z' h' => r0 = none ∧ z = z' ∧ ov_I F z' h' ∧ (∀ a : Int, a ≠ 47 → h' a = h a) ∧ ov_PA (ov_tw70 h) c way (h 47) (h' 47)
set_option maxHeartbeats 4000000 in
theorem c_passb_70 {u : ov_U} {F : ov_H} {z : ov_Z} {h : ov_H} (d : Nat) (hd : 3 ≤ d) (U : ov_cap u) (I : ov_I F z h) (c : Int) (way : Int) (k0 : h 46 3 = 70) (p0 : 0 ≤ c ∧ c ≤ 53) (p1 : way = 0 ∨ way = 1) (p2 : 0 ≤ h 47 c ∧ h 47 c ≤ 1100000) (p3 : 0 ≤ h 76 0) (pf : F (-5) 70 = 1) : ov_T u d ov_m116 [ov_r 46, ov_i c, ov_i way] z h (P_passb_70 F z h c way) := by
  refine ov_en rfl (Nat.le_of_ble_eq_true rfl) ?_
  show ov_R u d ov_m116 0 [(0, ov_r 46), (1, ov_i c), (2, ov_i way)] [] z h (P_passb_70 F z h c way)
  refine ov_blk (ls2 := [(0, ov_r 46), (1, ov_i c), (2, ov_i way)]) (st2 := [ov_r 46]) (pc2 := 1) b_116_0_1 rfl rfl ?_
  refine ov_getf (v := ov_r 70) d_116_1 fl_Ways_18 (zb_46 I) (zs_46 I) (congrArg ov_r k0) ?_
  refine ov_blk (ls2 := [(0, ov_r 46), (1, ov_i c), (2, ov_i way)]) (st2 := [ov_i way, ov_i c, ov_r 70]) (pc2 := 6) b_116_4_2 rfl rfl ?_
  refine ov_cV (as := [ov_i c, ov_i way]) (st := []) (d2 := d - 1) d_116_6 lk_Ways_38 rfl (Nat.le_of_ble_eq_true rfl) (c := 9) (zb_70 I) (zs_70 I) ⟨by decide, rfl⟩ (by omega) (c_Town_isOpen_70_b (d - 1) (by omega) U I c way (by omega) (by omega) (by omega)) ?_
  rintro _ _ _ ⟨v2, rfl, rfl, rfl, f1⟩
  show ov_R u d ov_m116 9 [(0, ov_r 46), (1, ov_i c), (2, ov_i way)] [ov_i v2] z h (P_passb_70 F z h c way)
  have f3 : (v2 = 0 ∨ v2 = 1) ∧ (way = 0 → v2 = h 77 c % 2) ∧ (way = 1 → v2 = h 77 c / 2) := f1
  clear f1
  have O := ov_ok70 I p3 pf
  have hob : ov_ob (ov_tw70 h) c way = v2 := by
    rcases p1 with e | e
    · rw [e, ov_ob0]
      exact (f3.2.1 e).symm
    · rw [e, ov_ob1]
      exact (f3.2.2 e).symm
  refine ov_ifeq (tgt := 49) d_116_9 (by decide) (by omega) (fun c4 => ?_) (fun c4 => ?_)
  · skip
    exact ov_retv (st := []) d_116_49 rfl ⟨rfl, rfl, I, fun _ _ => rfl, fun _ _ => rfl, fun q => by omega, fun _ => rfl⟩
  · skip
    have hno := ov_nxc_le O p0 p1 (by omega)
    refine ov_blk (ls2 := [(0, ov_r 46), (1, ov_i c), (2, ov_i way)]) (st2 := [ov_r 46]) (pc2 := 13) b_116_12_1 rfl rfl ?_
    refine ov_getf (v := ov_r 70) d_116_13 fl_Ways_18 (zb_46 I) (zs_46 I) (congrArg ov_r k0) ?_
    refine ov_blk (ls2 := [(0, ov_r 46), (1, ov_i c), (2, ov_i way)]) (st2 := [ov_i way, ov_i c, ov_r 70]) (pc2 := 18) b_116_16_2 rfl rfl ?_
    refine ov_cV (as := [ov_i c, ov_i way]) (st := []) (d2 := d - 1) d_116_18 lk_Ways_42 rfl (Nat.le_of_ble_eq_true rfl) (c := 9) (zb_70 I) (zs_70 I) ⟨by decide, rfl⟩ (by omega) (c_Town_after_70 (d - 1) (by omega) U I c way (by omega) (by omega) (by omega)) ?_
    rintro _ _ _ ⟨v6, rfl, rfl, rfl, f5⟩
    show ov_R u d ov_m116 21 [(0, ov_r 46), (1, ov_i c), (2, ov_i way)] [ov_i v6] z h (P_passb_70 F z h c way)
    have f7 : (way = 0 → v6 = c + 1) ∧ (¬ way = 0 → v6 = c + 6) := f5
    clear f5
    have hnx : ov_nxc c way = v6 := by
      rcases p1 with e | e
      · rw [e, f7.1 e]
        rfl
      · rw [f7.2 (by omega), e]
        rfl
    refine ov_blk (ls2 := [(0, ov_r 46), (1, ov_i c), (2, ov_i way), (3, ov_i v6)]) (st2 := [ov_r 46]) (pc2 := 23) b_116_21_2 rfl rfl ?_
    refine ov_getf (v := ov_r 47) d_116_23 fl_Ways_9 (zb_46 I) (zs_46 I) (congrArg ov_r (rg_46_5 I)) ?_
    refine ov_blk (ls2 := [(0, ov_r 46), (1, ov_i c), (2, ov_i way), (3, ov_i v6)]) (st2 := [ov_r 46, ov_i v6, ov_r 47]) (pc2 := 28) b_116_26_2 rfl rfl ?_
    refine ov_getf (v := ov_r 47) d_116_28 fl_Ways_9 (zb_46 I) (zs_46 I) (congrArg ov_r (rg_46_5 I)) ?_
    refine ov_blk (ls2 := [(0, ov_r 46), (1, ov_i c), (2, ov_i way), (3, ov_i v6)]) (st2 := [ov_i v6, ov_r 47, ov_i v6, ov_r 47]) (pc2 := 32) b_116_31_1 rfl rfl ?_
    refine ov_iald d_116_32 (zb_47 I) (zs_47 I) (by omega) ?_
    have g8 := ra_47 I v6
    refine ov_blk (ls2 := [(0, ov_r 46), (1, ov_i c), (2, ov_i way), (3, ov_i v6)]) (st2 := [ov_r 46, ov_i way, ov_i c, ov_r 46, ov_i (h 47 v6), ov_i v6, ov_r 47]) (pc2 := 37) b_116_33_4 rfl rfl ?_
    refine ov_getf (v := ov_r 47) d_116_37 fl_Ways_9 (zb_46 I) (zs_46 I) (congrArg ov_r (rg_46_5 I)) ?_
    refine ov_blk (ls2 := [(0, ov_r 46), (1, ov_i c), (2, ov_i way), (3, ov_i v6)]) (st2 := [ov_i c, ov_r 47, ov_i way, ov_i c, ov_r 46, ov_i (h 47 v6), ov_i v6, ov_r 47]) (pc2 := 41) b_116_40_1 rfl rfl ?_
    refine ov_iald d_116_41 (zb_47 I) (zs_47 I) (by omega) ?_
    refine ov_cV (as := [ov_i c, ov_i way, ov_i (h 47 c)]) (st := [ov_i (h 47 v6), ov_i v6, ov_r 47]) (d2 := d - 1) d_116_42 lk_Ways_46 rfl (Nat.le_of_ble_eq_true rfl) (c := 12) (zb_46 I) (zs_46 I) ⟨by decide, rfl⟩ (by omega) (c_Ways_afterStreet_46_k46_3_70_b (d - 1) (by omega) U I c way (h 47 c) k0 (by omega) (by omega) (by omega) (by omega) (by omega)) ?_
    rintro _ _ _ ⟨v11, rfl, rfl, rfl, f10⟩
    show ov_R u d ov_m116 45 [(0, ov_r 46), (1, ov_i c), (2, ov_i way), (3, ov_i v6)] [ov_i v11, ov_i (h 47 v6), ov_i v6, ov_r 47] z h (P_passb_70 F z h c way)
    have f12 : v11 = ov_fwc (ov_tw70 h) c way (h 47 c) := f10.1
    have f13 : -1 ≤ v11 ∧ v11 ≤ 1100090 := f10.2
    clear f10
    refine ov_cSN (as := [ov_i (h 47 v6), ov_i v11]) (st := [ov_i v6, ov_r 47]) (d2 := d - 1) d_116_45 lk_Ways_50 rfl (Nat.le_of_ble_eq_true rfl) (by omega) (c_OF_lesser_b (d - 1) (by omega) U I (h 47 v6) v11 (by omega) (by omega)) ?_
    rintro _ _ _ ⟨v14, rfl, rfl, rfl, f14⟩
    show ov_R u d ov_m116 48 [(0, ov_r 46), (1, ov_i c), (2, ov_i way), (3, ov_i v6)] [ov_i v14, ov_i v6, ov_r 47] z h (P_passb_70 F z h c way)
    have f15 : v14 = ov_les (h 47 v6) v11 := ov_les_of f14
    have f16 : v14 = h 47 v6 ∨ v14 = v11 := by have := f14; omega
    clear f14
    refine ov_iast d_116_48 (zb_47 I) (zs_47 I) (by omega) ?_
    have I16 := ua_47 (k := v6) (x := v14) I (by omega)
    refine ov_retv (st := []) d_116_49 rfl ⟨rfl, rfl, I16, fun a ha => ov_up_ne ha, fun j hj => ov_uj.2 (by rw [hnx] at hj; exact hj), fun _ => ?_, fun q => by omega⟩
    rw [hnx]
    show ov_up h 47 v6 v14 47 v6 = ov_les (h 47 v6) (ov_fwc (ov_tw70 h) c way (h 47 c))
    rw [ov_uj.1 rfl, f15, f12]
abbrev P_arrb_70 (F : ov_H) (z : ov_Z) (h : ov_H) (c : Int) (s : Int) : Option ov_V → ov_Z → ov_H → Prop := fun r0 z' h' => ∃ r : Int, r0 = some (ov_i r) ∧ z = z' ∧ ov_I F z' h' ∧ (∀ a : Int, a ≠ 46 → a ≠ 47 → h' a = h a) ∧ (∀ k : Int, k ≠ 3 → h' 46 k = h 46 k) ∧ h' 46 3 = 70 ∧ ((r = -1 ∧ ov_SA (ov_tw70 h) c s = 2000000000) ∨ (r = ov_SA (ov_tw70 h) c s ∧ 0 ≤ r ∧ r ≤ 1012000))
set_option maxHeartbeats 4000000 in
theorem c_arrb_70 {u : ov_U} {F : ov_H} {z : ov_Z} {h : ov_H} (d : Nat) (hd : 4 ≤ d) (U : ov_cap u) (I : ov_I F z h) (c : Int) (s : Int) (p0 : 0 ≤ c ∧ c ≤ 53) (p1 : 0 ≤ s ∧ s ≤ 1002000 + 90 * c) (p2 : 0 ≤ h 76 0) (pf : F (-5) 70 = 1) : ov_T u d ov_m114 [ov_r 46, ov_r 70, ov_i c, ov_i s] z h (P_arrb_70 F z h c s) := by
  have O := ov_ok70 I p2 pf
  have hm := O.2.2.2.2.1
  refine ov_en rfl (Nat.le_of_ble_eq_true rfl) ?_
  show ov_R u d ov_m114 0 [(0, ov_r 46), (1, ov_r 70), (2, ov_i c), (3, ov_i s)] [] z h (P_arrb_70 F z h c s)
  refine ov_blk (ls2 := [(0, ov_r 46), (1, ov_r 70), (2, ov_i c), (3, ov_i s)]) (st2 := [ov_r 70, ov_r 46]) (pc2 := 2) b_114_0_2 rfl rfl ?_
  refine ov_putf (x := 70) d_114_2 fl_Ways_18 (zb_46 I) (zs_46 I) rfl nk_2 rfl ?_
  have I1 := up_46_3 (x := 70) I (by omega)
  refine ov_blk (ls2 := [(0, ov_r 46), (1, ov_r 70), (2, ov_i c), (3, ov_i s)]) (st2 := [ov_r 46]) (pc2 := 6) b_114_5_1 rfl rfl ?_
  refine ov_getf (v := ov_r 47) d_114_6 fl_Ways_9 (zb_46 I1) (zs_46 I1) (congrArg ov_r (rg_46_5 I1)) ?_
  refine ov_blk (ls2 := [(0, ov_r 46), (1, ov_r 70), (2, ov_i c), (3, ov_i s)]) (st2 := [ov_i (-1), ov_r 47]) (pc2 := 10) b_114_9_1 rfl rfl ?_
  refine ov_cS (as := [ov_r 47, ov_i (-1)]) (st := []) (d2 := d - 1) d_114_10 lk_Ways_22 rfl (Nat.le_of_ble_eq_true rfl) (by omega) (c_fill47b (d - 1) (by omega) U I1 (-1) (by omega)) ?_
  rintro _ _ h4 ⟨rfl, rfl, I5, E4, A4⟩
  show ov_R u d ov_m114 13 [(0, ov_r 46), (1, ov_r 70), (2, ov_i c), (3, ov_i s)] [] z h4 (P_arrb_70 F z h c s)
  have F4 : ∀ a : Int, a ≠ 46 → a ≠ 47 → h4 a = h a := fun a h1 h2 => by rw [E4 a h2]; exact ov_up_ne h1
  have G4 : ∀ k : Int, k ≠ 3 → h4 46 k = h 46 k := fun k hk => by rw [E4 46 (by decide)]; exact ov_uj.2 hk
  have e7 : h4 46 3 = 70 := by rw [E4 46 (by decide)]; exact ov_uj.1 rfl
  refine ov_blk (ls2 := [(0, ov_r 46), (1, ov_r 70), (2, ov_i c), (3, ov_i s)]) (st2 := [ov_r 46]) (pc2 := 14) b_114_13_1 rfl rfl ?_
  refine ov_getf (v := ov_r 47) d_114_14 fl_Ways_9 (zb_46 I5) (zs_46 I5) (congrArg ov_r (rg_46_5 I5)) ?_
  refine ov_blk (ls2 := [(0, ov_r 46), (1, ov_r 70), (2, ov_i c), (3, ov_i s)]) (st2 := [ov_i s, ov_i c, ov_r 47]) (pc2 := 19) b_114_17_2 rfl rfl ?_
  refine ov_iast d_114_19 (zb_47 I5) (zs_47 I5) (by omega) ?_
  have I8 := ua_47 (k := c) (x := s) I5 (by omega)
  have F8 : ∀ a : Int, a ≠ 46 → a ≠ 47 → ov_up h4 47 c s a = h a := fun a h1 h2 => by rw [ov_up_ne h2]; exact F4 a h1 h2
  have G8 : ∀ k : Int, k ≠ 3 → ov_up h4 47 c s 46 k = h 46 k := fun k hk => by rw [ov_up_ne (by decide)]; exact G4 k hk
  have e8 : ov_up h4 47 c s 46 3 = 70 := by rw [ov_up_ne (by decide)]; exact e7
  have B8 : ∀ j : Int, (j = c → ov_up h4 47 c s 47 j = s) ∧ (j ≠ c → 0 ≤ j → j ≤ 53 → ov_up h4 47 c s 47 j = -1) := fun j => ⟨fun e => ov_uj.1 e, fun e h0 h1 => by rw [ov_uj.2 e]; exact A4 j h0 (by omega)⟩
  generalize ov_up h4 47 c s = h8 at I8 F8 G8 e8 B8 ⊢
  refine ov_blk (ls2 := [(0, ov_r 46), (1, ov_r 70), (2, ov_i c), (3, ov_i s)]) (st2 := [ov_r 46]) (pc2 := 21) b_114_20_1 rfl rfl ?_
  refine ov_getf (v := ov_r 70) d_114_21 fl_Ways_18 (zb_46 I8) (zs_46 I8) (congrArg ov_r e8) ?_
  refine ov_cV (as := []) (st := []) (d2 := d - 1) d_114_24 lk_Ways_28 rfl (Nat.le_of_ble_eq_true rfl) (c := 9) (zb_70 I8) (zs_70 I8) ⟨by decide, rfl⟩ (by omega) (c_Town_home_70 (d - 1) (by omega) U I8 pf) ?_
  rintro _ _ _ ⟨v10, rfl, rfl, rfl, f9⟩
  show ov_R u d ov_m114 27 [(0, ov_r 46), (1, ov_r 70), (2, ov_i c), (3, ov_i s)] [ov_i v10] z h8 (P_arrb_70 F z h c s)
  have hv : v10 = ov_hmf (ov_tw70 h) := by
    have q : v10 = ov_hmf (ov_tw70 h8) := f9.1
    rw [ov_tw70_eq F8] at q
    exact q
  clear f9
  subst hv
  have hL0 : ov_AL (ov_tw70 h) (ov_SA (ov_tw70 h) c s) c (h8 47) := fun j h0 h1 => by
    by_cases hj : j = c
    · rw [(B8 j).1 hj, hj]
      exact Or.inr ⟨p1.1, p1.2, Int.le_refl _⟩
    · exact Or.inl ((B8 j).2 hj (by omega) h1)
  have hX0 : ov_AX (ov_tw70 h) (ov_SA (ov_tw70 h) c s) c (h8 47) := Or.inr ⟨c, Int.le_refl _, p0.2, by rw [(B8 c).1 rfl]; omega, by rw [(B8 c).1 rfl]⟩
  have hH0 : c ≤ ov_hmf (ov_tw70 h) ∨ h8 47 (ov_hmf (ov_tw70 h)) = -1 ∧ ov_SA (ov_tw70 h) c s = 2000000000 := by
    by_cases hq : c ≤ ov_hmf (ov_tw70 h)
    · exact Or.inl hq
    · exact Or.inr ⟨(B8 _).2 (by omega) hm.1 hm.2, ov_SA_far (by omega)⟩
  refine ov_blk (ls2 := [(0, ov_r 46), (1, ov_r 70), (2, ov_i c), (3, ov_i s), (4, ov_i (ov_hmf (ov_tw70 h))), (5, ov_i c)]) (st2 := []) (pc2 := 32) b_114_27_3 rfl rfl ?_
  have L15 : ∀ (n12 : Nat) (x5 : Int) (h17 : ov_H) (I18 : ov_I F z h17) (E17 : ∀ a : Int, a ≠ 46 → a ≠ 47 → h17 a = h a) (G17 : ∀ k : Int, k ≠ 3 → h17 46 k = h 46 k) (e20 : h17 46 3 = 70) (hL : ov_AL (ov_tw70 h) (ov_SA (ov_tw70 h) c s) x5 (h17 47)) (hX : ov_AX (ov_tw70 h) (ov_SA (ov_tw70 h) c s) x5 (h17 47)) (hH : x5 ≤ ov_hmf (ov_tw70 h) ∨ h17 47 (ov_hmf (ov_tw70 h)) = -1 ∧ ov_SA (ov_tw70 h) c s = 2000000000) (q14 : 0 ≤ x5 ∧ x5 ≤ 53), 53 - x5 < (n12 : Int) → ov_R u d ov_m114 32 [(0, ov_r 46), (1, ov_r 70), (2, ov_i c), (3, ov_i s), (4, ov_i (ov_hmf (ov_tw70 h))), (5, ov_i x5)] [] z h17 (P_arrb_70 F z h c s) := by
    intro n12
    induction n12 with
    | zero =>
      intro x5 h17 I18 E17 G17 e20 hL hX hH q14 hn19
      exact absurd hn19 (by omega)
    | succ n12 ih13 =>
      intro x5 h17 I18 E17 G17 e20 hL hX hH q14 hn19
      refine ov_blk (ls2 := [(0, ov_r 46), (1, ov_r 70), (2, ov_i c), (3, ov_i s), (4, ov_i (ov_hmf (ov_tw70 h))), (5, ov_i x5)]) (st2 := [ov_i (ov_hmf (ov_tw70 h)), ov_i x5]) (pc2 := 36) b_114_32_2 rfl rfl ?_
      refine ov_icge (tgt := 70) d_114_36 (by decide) (by omega) (by omega) (fun c21 => ?_) (fun c21 => ?_)
      · skip
        refine ov_blk (ls2 := [(0, ov_r 46), (1, ov_r 70), (2, ov_i c), (3, ov_i s), (4, ov_i (ov_hmf (ov_tw70 h))), (5, ov_i x5)]) (st2 := [ov_r 46]) (pc2 := 71) b_114_70_1 rfl rfl ?_
        refine ov_getf (v := ov_r 47) d_114_71 fl_Ways_9 (zb_46 I18) (zs_46 I18) (congrArg ov_r (rg_46_5 I18)) ?_
        refine ov_blk (ls2 := [(0, ov_r 46), (1, ov_r 70), (2, ov_i c), (3, ov_i s), (4, ov_i (ov_hmf (ov_tw70 h))), (5, ov_i x5)]) (st2 := [ov_i (ov_hmf (ov_tw70 h)), ov_r 47]) (pc2 := 76) b_114_74_1 rfl rfl ?_
        refine ov_iald d_114_76 (zb_47 I18) (zs_47 I18) (by omega) ?_
        exact ov_reti (st := []) d_114_77 rfl ⟨_, rfl, rfl, I18, E17, G17, e20, ov_PA_end O (by omega) hH rfl hL hX⟩
      · skip
        refine ov_blk (ls2 := [(0, ov_r 46), (1, ov_r 70), (2, ov_i c), (3, ov_i s), (4, ov_i (ov_hmf (ov_tw70 h))), (5, ov_i x5)]) (st2 := [ov_r 46]) (pc2 := 40) b_114_39_1 rfl rfl ?_
        refine ov_getf (v := ov_r 47) d_114_40 fl_Ways_9 (zb_46 I18) (zs_46 I18) (congrArg ov_r (rg_46_5 I18)) ?_
        refine ov_blk (ls2 := [(0, ov_r 46), (1, ov_r 70), (2, ov_i c), (3, ov_i s), (4, ov_i (ov_hmf (ov_tw70 h))), (5, ov_i x5)]) (st2 := [ov_i x5, ov_r 47]) (pc2 := 45) b_114_43_1 rfl rfl ?_
        refine ov_iald d_114_45 (zb_47 I18) (zs_47 I18) (by omega) ?_
        have g23 := ra_47 I18 x5
        refine ov_blk (ls2 := [(0, ov_r 46), (1, ov_r 70), (2, ov_i c), (3, ov_i s), (4, ov_i (ov_hmf (ov_tw70 h))), (5, ov_i x5)]) (st2 := [ov_i (-1), ov_i (h17 47 x5)]) (pc2 := 47) b_114_46_1 rfl rfl ?_
        refine ov_iceq (tgt := 64) d_114_47 (by decide) (by omega) (by omega) (fun c24 => ?_) (fun c24 => ?_)
        · skip
          have nn := ov_PA_none c24 hL hX
          refine ov_blk (ls2 := [(0, ov_r 46), (1, ov_r 70), (2, ov_i c), (3, ov_i s), (4, ov_i (ov_hmf (ov_tw70 h))), (5, ov_i (x5 + 1))]) (st2 := []) (pc2 := 67) b_114_64_1 rfl rfl ?_
          refine ov_goto (tgt := 32) d_114_67 (by decide) ?_
          exact ih13 (x5 + 1) _ I18 E17 G17 e20 nn.1 nn.2 (Or.inl (by omega)) (by omega) (by omega)
        · skip
          have l0 := (hL x5 (Int.le_refl _) q14.2).resolve_left c24
          have w17 : 0 ≤ h17 76 0 := by rw [E17 76 (by decide) (by decide)]; exact p2
          refine ov_blk (ls2 := [(0, ov_r 46), (1, ov_r 70), (2, ov_i c), (3, ov_i s), (4, ov_i (ov_hmf (ov_tw70 h))), (5, ov_i x5)]) (st2 := [ov_i 0, ov_i x5, ov_r 46]) (pc2 := 54) b_114_50_3 rfl rfl ?_
          refine ov_cV (as := [ov_i x5, ov_i 0]) (st := []) (d2 := d - 1) d_114_54 lk_Ways_34 rfl (Nat.le_of_ble_eq_true rfl) (c := 12) (zb_46 I18) (zs_46 I18) ⟨by decide, rfl⟩ (by omega) (c_passb_70 (d - 1) (by omega) U I18 x5 0 e20 (by omega) (Or.inl rfl) (by omega) w17 pf) ?_
          rintro _ _ h27 ⟨rfl, rfl, I28, E27, P27⟩
          show ov_R u d ov_m114 57 [(0, ov_r 46), (1, ov_r 70), (2, ov_i c), (3, ov_i s), (4, ov_i (ov_hmf (ov_tw70 h))), (5, ov_i x5)] [] z h27 (P_arrb_70 F z h c s)
          rw [ov_tw70_eq E17] at P27
          have F27 : ∀ a : Int, a ≠ 46 → a ≠ 47 → h27 a = h a := fun a h1 h2 => by rw [E27 a h2]; exact E17 a h1 h2
          have G27 : ∀ k : Int, k ≠ 3 → h27 46 k = h 46 k := fun k hk => by rw [E27 46 (by decide)]; exact G17 k hk
          have e30 : h27 46 3 = 70 := by rw [E27 46 (by decide)]; exact e20
          have w27 : 0 ≤ h27 76 0 := by rw [F27 76 (by decide) (by decide)]; exact p2
          have x27 : h27 47 x5 = h17 47 x5 := P27.1 x5 (by show x5 ≠ x5 + 1; omega)
          refine ov_blk (ls2 := [(0, ov_r 46), (1, ov_r 70), (2, ov_i c), (3, ov_i s), (4, ov_i (ov_hmf (ov_tw70 h))), (5, ov_i x5)]) (st2 := [ov_i 1, ov_i x5, ov_r 46]) (pc2 := 61) b_114_57_3 rfl rfl ?_
          refine ov_cV (as := [ov_i x5, ov_i 1]) (st := []) (d2 := d - 1) d_114_61 lk_Ways_34 rfl (Nat.le_of_ble_eq_true rfl) (c := 12) (zb_46 I28) (zs_46 I28) ⟨by decide, rfl⟩ (by omega) (c_passb_70 (d - 1) (by omega) U I28 x5 1 e30 (by omega) (Or.inr rfl) (by omega) w27 pf) ?_
          rintro _ _ h33 ⟨rfl, rfl, I34, E33, P33⟩
          show ov_R u d ov_m114 64 [(0, ov_r 46), (1, ov_r 70), (2, ov_i c), (3, ov_i s), (4, ov_i (ov_hmf (ov_tw70 h))), (5, ov_i x5)] [] z h33 (P_arrb_70 F z h c s)
          rw [ov_tw70_eq F27] at P33
          have F33 : ∀ a : Int, a ≠ 46 → a ≠ 47 → h33 a = h a := fun a h1 h2 => by rw [E33 a h2]; exact F27 a h1 h2
          have G33 : ∀ k : Int, k ≠ 3 → h33 46 k = h 46 k := fun k hk => by rw [E33 46 (by decide)]; exact G27 k hk
          have e36 : h33 46 3 = 70 := by rw [E33 46 (by decide)]; exact e30
          have nn := ov_PA_both O q14 (by omega) c24 hL hX P27 P33
          refine ov_blk (ls2 := [(0, ov_r 46), (1, ov_r 70), (2, ov_i c), (3, ov_i s), (4, ov_i (ov_hmf (ov_tw70 h))), (5, ov_i (x5 + 1))]) (st2 := []) (pc2 := 67) b_114_64_1 rfl rfl ?_
          refine ov_goto (tgt := 32) d_114_67 (by decide) ?_
          exact ih13 (x5 + 1) _ I34 F33 G33 e36 nn.1 nn.2 (Or.inl (by omega)) (by omega) (by omega)
  exact L15 55 c _ I8 F8 G8 e8 hL0 hX0 hH0 p0 (by omega)
abbrev P_asob_70 (F : ov_H) (z : ov_Z) (h : ov_H) (c : Int) (s : Int) (n : Int) : Option ov_V → ov_Z → ov_H → Prop := fun r0 z' h' => ∃ r : Int, r0 = some (ov_i r) ∧ z = z' ∧ ov_I F z' h' ∧ (∀ a : Int, a ≠ 46 → a ≠ 47 → h' a = h a) ∧ (∀ k : Int, k ≠ 3 → h' 46 k = h 46 k) ∧ h' 46 3 = 70 ∧ ((r = 1 ∧ ov_ob (ov_tw70 h) c 0 = 1 ∧ ov_SA (ov_tw70 h) (c + 1) (ov_fwc (ov_tw70 h) c 0 s) = n) ∨ (r = 0 ∧ ¬ (ov_ob (ov_tw70 h) c 0 = 1 ∧ ov_SA (ov_tw70 h) (c + 1) (ov_fwc (ov_tw70 h) c 0 s) = n)))
set_option maxHeartbeats 4000000 in
theorem c_asob_70 {u : ov_U} {F : ov_H} {z : ov_Z} {h : ov_H} (d : Nat) (hd : 5 ≤ d) (U : ov_cap u) (I : ov_I F z h) (c : Int) (s : Int) (n : Int) (k0 : h 46 3 = 70) (p0 : 0 ≤ c ∧ c ≤ 53) (p1 : 0 ≤ s ∧ s ≤ 1002000 + 90 * c) (p2 : 0 ≤ n ∧ n ≤ 1012000) (p3 : 0 ≤ h 76 0) (pf : F (-5) 70 = 1) : ov_T u d ov_m119 [ov_r 46, ov_i c, ov_i s, ov_i n] z h (P_asob_70 F z h c s n) := by
  have O := ov_ok70 I p3 pf
  refine ov_en rfl (Nat.le_of_ble_eq_true rfl) ?_
  show ov_R u d ov_m119 0 [(0, ov_r 46), (1, ov_i c), (2, ov_i s), (3, ov_i n)] [] z h (P_asob_70 F z h c s n)
  refine ov_blk (ls2 := [(0, ov_r 46), (1, ov_i c), (2, ov_i s), (3, ov_i n)]) (st2 := [ov_r 46]) (pc2 := 1) b_119_0_1 rfl rfl ?_
  refine ov_getf (v := ov_r 70) d_119_1 fl_Ways_18 (zb_46 I) (zs_46 I) (congrArg ov_r k0) ?_
  refine ov_blk (ls2 := [(0, ov_r 46), (1, ov_i c), (2, ov_i s), (3, ov_i n)]) (st2 := [ov_i 0, ov_i c, ov_r 70]) (pc2 := 6) b_119_4_2 rfl rfl ?_
  refine ov_cV (as := [ov_i c, ov_i 0]) (st := []) (d2 := d - 1) d_119_6 lk_Ways_38 rfl (Nat.le_of_ble_eq_true rfl) (c := 9) (zb_70 I) (zs_70 I) ⟨by decide, rfl⟩ (by omega) (c_Town_isOpen_70_b (d - 1) (by omega) U I c 0 (by omega) (by omega) (by omega)) ?_
  rintro _ _ _ ⟨v2, rfl, rfl, rfl, f1⟩
  show ov_R u d ov_m119 9 [(0, ov_r 46), (1, ov_i c), (2, ov_i s), (3, ov_i n)] [ov_i v2] z h (P_asob_70 F z h c s n)
  have hob : ov_ob (ov_tw70 h) c 0 = v2 := by
    rw [ov_ob0]
    exact (f1.2.1 rfl).symm
  have f3 : v2 = 0 ∨ v2 = 1 := f1.1
  clear f1
  refine ov_ifeq (tgt := 44) d_119_9 (by decide) (by omega) (fun c4 => ?_) (fun c4 => ?_)
  · skip
    refine ov_blk (ls2 := [(0, ov_r 46), (1, ov_i c), (2, ov_i s), (3, ov_i n)]) (st2 := [ov_i 0]) (pc2 := 45) b_119_44_1 rfl rfl ?_
    exact ov_retz (st := []) d_119_45 rfl (by omega) ⟨_, rfl, rfl, I, fun _ _ _ => rfl, fun _ _ => rfl, k0, Or.inr ⟨rfl, fun q => by omega⟩⟩
  · skip
    have hno := ov_nxc_le O p0 (Or.inl rfl) (show ov_ob (ov_tw70 h) c 0 = 1 by omega)
    have hno1 : c + 1 ≤ 53 := hno.2
    have hfr := ov_fwc_rng O (c := c) (way := 0) (t := s)
    refine ov_blk (ls2 := [(0, ov_r 46), (1, ov_i c), (2, ov_i s), (3, ov_i n)]) (st2 := [ov_r 46, ov_r 46]) (pc2 := 14) b_119_12_2 rfl rfl ?_
    refine ov_getf (v := ov_r 70) d_119_14 fl_Ways_18 (zb_46 I) (zs_46 I) (congrArg ov_r k0) ?_
    refine ov_blk (ls2 := [(0, ov_r 46), (1, ov_i c), (2, ov_i s), (3, ov_i n)]) (st2 := [ov_r 46, ov_r 70, ov_r 46]) (pc2 := 18) b_119_17_1 rfl rfl ?_
    refine ov_getf (v := ov_r 70) d_119_18 fl_Ways_18 (zb_46 I) (zs_46 I) (congrArg ov_r k0) ?_
    refine ov_blk (ls2 := [(0, ov_r 46), (1, ov_i c), (2, ov_i s), (3, ov_i n)]) (st2 := [ov_i 0, ov_i c, ov_r 70, ov_r 70, ov_r 46]) (pc2 := 23) b_119_21_2 rfl rfl ?_
    refine ov_cV (as := [ov_i c, ov_i 0]) (st := [ov_r 70, ov_r 46]) (d2 := d - 1) d_119_23 lk_Ways_42 rfl (Nat.le_of_ble_eq_true rfl) (c := 9) (zb_70 I) (zs_70 I) ⟨by decide, rfl⟩ (by omega) (c_Town_after_70 (d - 1) (by omega) U I c 0 (by omega) (by omega) (by omega)) ?_
    rintro _ _ _ ⟨v6, rfl, rfl, rfl, f5⟩
    show ov_R u d ov_m119 26 [(0, ov_r 46), (1, ov_i c), (2, ov_i s), (3, ov_i n)] [ov_i v6, ov_r 70, ov_r 46] z h (P_asob_70 F z h c s n)
    have f7 : v6 = c + 1 := f5.1 rfl
    clear f5
    subst f7
    refine ov_blk (ls2 := [(0, ov_r 46), (1, ov_i c), (2, ov_i s), (3, ov_i n)]) (st2 := [ov_i s, ov_i 0, ov_i c, ov_r 46, ov_i (c + 1), ov_r 70, ov_r 46]) (pc2 := 30) b_119_26_4 rfl rfl ?_
    refine ov_cV (as := [ov_i c, ov_i 0, ov_i s]) (st := [ov_i (c + 1), ov_r 70, ov_r 46]) (d2 := d - 1) d_119_30 lk_Ways_46 rfl (Nat.le_of_ble_eq_true rfl) (c := 12) (zb_46 I) (zs_46 I) ⟨by decide, rfl⟩ (by omega) (c_Ways_afterStreet_46_k46_3_70_b (d - 1) (by omega) U I c 0 s k0 (by omega) (by omega) (by omega) (by omega) (by omega)) ?_
    rintro _ _ _ ⟨v9, rfl, rfl, rfl, f8⟩
    show ov_R u d ov_m119 33 [(0, ov_r 46), (1, ov_i c), (2, ov_i s), (3, ov_i n)] [ov_i v9, ov_i (c + 1), ov_r 70, ov_r 46] z h (P_asob_70 F z h c s n)
    have f10 : v9 = ov_fwc (ov_tw70 h) c 0 s := f8.1
    clear f8
    rw [← f10] at hfr
    refine ov_cV (as := [ov_r 70, ov_i (c + 1), ov_i v9]) (st := []) (d2 := d - 1) d_119_33 lk_Ways_59 rfl (Nat.le_of_ble_eq_true rfl) (c := 12) (zb_46 I) (zs_46 I) ⟨by decide, rfl⟩ (by omega) (c_arrb_70 (d - 1) (by omega) U I (c + 1) v9 (by omega) (by omega) p3 pf) ?_
    rintro _ _ h14 ⟨v12, rfl, rfl, I15, E14, G14, e14, f11⟩
    show ov_R u d ov_m119 36 [(0, ov_r 46), (1, ov_i c), (2, ov_i s), (3, ov_i n)] [ov_i v12] z h14 (P_asob_70 F z h c s n)
    rw [f10] at f11
    refine ov_blk (ls2 := [(0, ov_r 46), (1, ov_i c), (2, ov_i s), (3, ov_i n)]) (st2 := [ov_i n, ov_i v12]) (pc2 := 37) b_119_36_1 rfl rfl ?_
    refine ov_icne (tgt := 44) d_119_37 (by decide) (by omega) (by omega) (fun c18 => ?_) (fun c18 => ?_)
    · skip
      refine ov_blk (ls2 := [(0, ov_r 46), (1, ov_i c), (2, ov_i s), (3, ov_i n)]) (st2 := [ov_i 0]) (pc2 := 45) b_119_44_1 rfl rfl ?_
      exact ov_retz (st := []) d_119_45 rfl (by omega) ⟨_, rfl, rfl, I15, E14, G14, e14, Or.inr ⟨rfl, fun q => by omega⟩⟩
    · skip
      refine ov_blk (ls2 := [(0, ov_r 46), (1, ov_i c), (2, ov_i s), (3, ov_i n)]) (st2 := [ov_i 1]) (pc2 := 41) b_119_40_1 rfl rfl ?_
      refine ov_goto (tgt := 45) d_119_41 (by decide) ?_
      exact ov_retz (st := []) d_119_45 rfl (by omega) ⟨_, rfl, rfl, I15, E14, G14, e14, Or.inl ⟨rfl, by omega, by omega⟩⟩

theorem b_305_78_3 : ov_ds ov_m305.2.1 78 [.iconst 0, .ior, .istore 5] = true := by decide +kernel
theorem b_305_82_1 : ov_ds ov_m305.2.1 82 [.iinc 6 1] = true := by decide +kernel
theorem b_305_79_2 : ov_ds ov_m305.2.1 79 [.ior, .istore 5] = true := by decide +kernel
theorem b_304_6_11 : ov_ds ov_m304.2.1 6 [.istore 8, .lload 5, .lconst 1, .bipush 6, .iload_n 2, .imul, .iload_n 1, .iadd, .lshl, .lor, .lstore 9] = true := by decide +kernel
theorem b_304_21_2 : ov_ds ov_m304.2.1 21 [.iconst 0, .istore 11] = true := by decide +kernel
theorem b_303_88_4 : ov_ds ov_m303.2.1 88 [.iload 4, .lshr, .lconst 1, .land] = true := by decide +kernel
theorem b_303_93_2 : ov_ds ov_m303.2.1 93 [.lconst 1, .lcmp] = true := by decide +kernel
theorem b_303_167_3 : ov_ds ov_m303.2.1 167 [.lconst 0, .lor, .lstore_n 2] = true := by decide +kernel
theorem b_303_170_1 : ov_ds ov_m303.2.1 170 [.iinc 4 1] = true := by decide +kernel
theorem b_303_168_2 : ov_ds ov_m303.2.1 168 [.lor, .lstore_n 2] = true := by decide +kernel
abbrev P_Mo_wasBetween_90_t (F : ov_H × ov_Z) (z : ov_Z) (h : ov_H) (x : Int) (y : Int) (a : Int) (b : Int) : Option ov_V → ov_Z → ov_H → Prop := fun r0 z' h' => ∃ r : Int, r0 = some (ov_i r) ∧ z = z' ∧ h = h' ∧ (-2147483648 ≤ r ∧ r ≤ 2147483647 ∧ r = ft_b (h 103) x y a b (Int.toNat (h 103 59)))
set_option maxHeartbeats 4000000 in
theorem c_Mo_wasBetween_90_t {u : ov_U} {F : ov_H × ov_Z} {z : ov_Z} {h : ov_H} (d : Nat) (hd : 1 ≤ d) (U : ov_cap u) (I : ov_N F z h) (x : Int) (y : Int) (a : Int) (b : Int) (g_x : ov_g x) (g_y : ov_g y) (g_a : ov_g a) (g_b : ov_g b) : ov_T u d ov_m305 [ov_r 90, ov_i x, ov_i y, ov_i a, ov_i b] z h (P_Mo_wasBetween_90_t F z h x y a b) := by
  refine ov_en rfl (Nat.le_of_ble_eq_true rfl) ?_
  show ov_R u d ov_m305 0 [(0, ov_r 90), (1, ov_i x), (2, ov_i y), (3, ov_i a), (4, ov_i b)] [] z h (P_Mo_wasBetween_90_t F z h x y a b)
  have t59 := s103_59 I
  have z0 : ft_b (h 103) x y a b (Int.toNat 0) = 0 := rfl
  refine ov_blk (ls2 := [(0, ov_r 90), (1, ov_i x), (2, ov_i y), (3, ov_i a), (4, ov_i b), (5, ov_i 0), (6, ov_i 0)]) (st2 := []) (pc2 := 6) b_305_0_4 rfl rfl ?_
  have L4 : ∀ (n1 : Nat) (x5 : Int) (x6 : Int) (q3 : ov_g x5 ∧ 0 ≤ x6 ∧ x6 ≤ (h 103 59) ∧ x5 = ft_b (h 103) x y a b (Int.toNat x6)), 8 - x6 < (n1 : Int) → ov_R u d ov_m305 6 [(0, ov_r 90), (1, ov_i x), (2, ov_i y), (3, ov_i a), (4, ov_i b), (5, ov_i x5), (6, ov_i x6)] [] z h (P_Mo_wasBetween_90_t F z h x y a b) := by
    intro n1
    induction n1 with
    | zero =>
      intro x5 x6 q3 hn5
      exact absurd hn5 (by omega)
    | succ n1 ih2 =>
      intro x5 x6 q3 hn5
      refine ov_blk (ls2 := [(0, ov_r 90), (1, ov_i x), (2, ov_i y), (3, ov_i a), (4, ov_i b), (5, ov_i x5), (6, ov_i x6)]) (st2 := [ov_r 90, ov_i x6]) (pc2 := 9) b_305_6_2 rfl rfl ?_
      refine ov_getf (v := ov_r 103) d_305_9 fl_Mo_102 (zb_90 I) (zs_90 I) (congrArg ov_r (rg_90_19 I)) ?_
      refine ov_blk (ls2 := [(0, ov_r 90), (1, ov_i x), (2, ov_i y), (3, ov_i a), (4, ov_i b), (5, ov_i x5), (6, ov_i x6)]) (st2 := [ov_i 59, ov_r 103, ov_i x6]) (pc2 := 14) b_305_12_1 rfl rfl ?_
      refine ov_iald d_305_14 (zb_103 I) (zs_103 I) (by omega) ?_
      have g6 := s103_59 I
      refine ov_icge (tgt := 88) d_305_15 (by decide) (by omega) (by omega) (fun c7 => ?_) (fun c7 => ?_)
      · skip
        have en : ft_b (h 103) x y a b (Int.toNat x6) = ft_b (h 103) x y a b (Int.toNat (h 103 59)) := by rw [show x6 = h 103 59 by omega]
        refine ov_blk (ls2 := [(0, ov_r 90), (1, ov_i x), (2, ov_i y), (3, ov_i a), (4, ov_i b), (5, ov_i x5), (6, ov_i x6)]) (st2 := [ov_i x5]) (pc2 := 90) b_305_88_1 rfl rfl ?_
        exact ov_reti (st := []) d_305_90 rfl ⟨_, rfl, rfl, rfl, (by show -2147483648 ≤ x5 ∧ x5 ≤ 2147483647 ∧ x5 = ft_b (h 103) x y a b (Int.toNat (h 103 59)); omega)⟩
      · skip
        refine ov_blk (ls2 := [(0, ov_r 90), (1, ov_i x), (2, ov_i y), (3, ov_i a), (4, ov_i b), (5, ov_i x5), (6, ov_i x6), (7, ov_i (92 + (3 * x6)))]) (st2 := [ov_r 90, ov_i x5]) (pc2 := 30) b_305_18_8 rfl rfl ?_
        refine ov_getf (v := ov_r 103) d_305_30 fl_Mo_102 (zb_90 I) (zs_90 I) (congrArg ov_r (rg_90_19 I)) ?_
        refine ov_blk (ls2 := [(0, ov_r 90), (1, ov_i x), (2, ov_i y), (3, ov_i a), (4, ov_i b), (5, ov_i x5), (6, ov_i x6), (7, ov_i (92 + (3 * x6)))]) (st2 := [ov_i (92 + (3 * x6)), ov_r 103, ov_i x5]) (pc2 := 35) b_305_33_1 rfl rfl ?_
        refine ov_iald d_305_35 (zb_103 I) (zs_103 I) (by omega) ?_
        have g8 := g103 I (92 + (3 * x6))
        refine ov_blk (ls2 := [(0, ov_r 90), (1, ov_i x), (2, ov_i y), (3, ov_i a), (4, ov_i b), (5, ov_i x5), (6, ov_i x6), (7, ov_i (92 + (3 * x6)))]) (st2 := [ov_i x, ov_i (h 103 (92 + (3 * x6))), ov_i x5]) (pc2 := 37) b_305_36_1 rfl rfl ?_
        refine ov_icne (tgt := 78) d_305_37 (by decide) (by omega) (by omega) (fun c9 => ?_) (fun c9 => ?_)
        · skip
          refine ov_blk (ls2 := [(0, ov_r 90), (1, ov_i x), (2, ov_i y), (3, ov_i a), (4, ov_i b), (5, ov_i (ov_or x5 0)), (6, ov_i x6), (7, ov_i (92 + (3 * x6)))]) (st2 := []) (pc2 := 82) b_305_78_3 rfl rfl ?_
          have g10 := ov_org x5 0
          have st := ft_b_s (s := h 103) (x := x) (y := y) (a := a) (b := b) (i := x6) (v := 0) (by omega) (by omega) (u := x5) (by omega)
          refine ov_blk (ls2 := [(0, ov_r 90), (1, ov_i x), (2, ov_i y), (3, ov_i a), (4, ov_i b), (5, ov_i (ov_or x5 0)), (6, ov_i (x6 + 1)), (7, ov_i (92 + (3 * x6)))]) (st2 := []) (pc2 := 85) b_305_82_1 rfl rfl ?_
          refine ov_goto (tgt := 6) d_305_85 (by decide) ?_
          refine ov_sub (ls2 := [(0, ov_r 90), (1, ov_i x), (2, ov_i y), (3, ov_i a), (4, ov_i b), (5, ov_i (ov_or x5 0)), (6, ov_i (x6 + 1))]) (List.Sublist.subset (by repeat (first | exact List.Sublist.refl _ | apply List.Sublist.cons_cons | apply List.Sublist.cons))) ?_
          exact ih2 (ov_or x5 0) (x6 + 1) (by show ov_g (ov_or x5 0) ∧ 0 ≤ (x6 + 1) ∧ (x6 + 1) ≤ (h 103 59) ∧ (ov_or x5 0) = ft_b (h 103) x y a b (Int.toNat (x6 + 1)); omega) (by omega)
        · skip
          refine ov_blk (ls2 := [(0, ov_r 90), (1, ov_i x), (2, ov_i y), (3, ov_i a), (4, ov_i b), (5, ov_i x5), (6, ov_i x6), (7, ov_i (92 + (3 * x6)))]) (st2 := [ov_r 90, ov_i x5]) (pc2 := 41) b_305_40_1 rfl rfl ?_
          refine ov_getf (v := ov_r 103) d_305_41 fl_Mo_102 (zb_90 I) (zs_90 I) (congrArg ov_r (rg_90_19 I)) ?_
          refine ov_blk (ls2 := [(0, ov_r 90), (1, ov_i x), (2, ov_i y), (3, ov_i a), (4, ov_i b), (5, ov_i x5), (6, ov_i x6), (7, ov_i (92 + (3 * x6)))]) (st2 := [ov_i ((92 + (3 * x6)) + 1), ov_r 103, ov_i x5]) (pc2 := 48) b_305_44_3 rfl rfl ?_
          refine ov_iald d_305_48 (zb_103 I) (zs_103 I) (by omega) ?_
          have g11 := g103 I ((92 + (3 * x6)) + 1)
          refine ov_blk (ls2 := [(0, ov_r 90), (1, ov_i x), (2, ov_i y), (3, ov_i a), (4, ov_i b), (5, ov_i x5), (6, ov_i x6), (7, ov_i (92 + (3 * x6)))]) (st2 := [ov_i y, ov_i (h 103 ((92 + (3 * x6)) + 1)), ov_i x5]) (pc2 := 50) b_305_49_1 rfl rfl ?_
          refine ov_icne (tgt := 78) d_305_50 (by decide) (by omega) (by omega) (fun c12 => ?_) (fun c12 => ?_)
          · skip
            refine ov_blk (ls2 := [(0, ov_r 90), (1, ov_i x), (2, ov_i y), (3, ov_i a), (4, ov_i b), (5, ov_i (ov_or x5 0)), (6, ov_i x6), (7, ov_i (92 + (3 * x6)))]) (st2 := []) (pc2 := 82) b_305_78_3 rfl rfl ?_
            have g13 := ov_org x5 0
            have st := ft_b_s (s := h 103) (x := x) (y := y) (a := a) (b := b) (i := x6) (v := 0) (by omega) (by omega) (u := x5) (by omega)
            refine ov_blk (ls2 := [(0, ov_r 90), (1, ov_i x), (2, ov_i y), (3, ov_i a), (4, ov_i b), (5, ov_i (ov_or x5 0)), (6, ov_i (x6 + 1)), (7, ov_i (92 + (3 * x6)))]) (st2 := []) (pc2 := 85) b_305_82_1 rfl rfl ?_
            refine ov_goto (tgt := 6) d_305_85 (by decide) ?_
            refine ov_sub (ls2 := [(0, ov_r 90), (1, ov_i x), (2, ov_i y), (3, ov_i a), (4, ov_i b), (5, ov_i (ov_or x5 0)), (6, ov_i (x6 + 1))]) (List.Sublist.subset (by repeat (first | exact List.Sublist.refl _ | apply List.Sublist.cons_cons | apply List.Sublist.cons))) ?_
            exact ih2 (ov_or x5 0) (x6 + 1) (by show ov_g (ov_or x5 0) ∧ 0 ≤ (x6 + 1) ∧ (x6 + 1) ≤ (h 103 59) ∧ (ov_or x5 0) = ft_b (h 103) x y a b (Int.toNat (x6 + 1)); omega) (by omega)
          · skip
            refine ov_blk (ls2 := [(0, ov_r 90), (1, ov_i x), (2, ov_i y), (3, ov_i a), (4, ov_i b), (5, ov_i x5), (6, ov_i x6), (7, ov_i (92 + (3 * x6)))]) (st2 := [ov_r 90, ov_i x5]) (pc2 := 54) b_305_53_1 rfl rfl ?_
            refine ov_getf (v := ov_r 103) d_305_54 fl_Mo_102 (zb_90 I) (zs_90 I) (congrArg ov_r (rg_90_19 I)) ?_
            refine ov_blk (ls2 := [(0, ov_r 90), (1, ov_i x), (2, ov_i y), (3, ov_i a), (4, ov_i b), (5, ov_i x5), (6, ov_i x6), (7, ov_i (92 + (3 * x6)))]) (st2 := [ov_i ((92 + (3 * x6)) + 2), ov_r 103, ov_i x5]) (pc2 := 61) b_305_57_3 rfl rfl ?_
            refine ov_iald d_305_61 (zb_103 I) (zs_103 I) (by omega) ?_
            have g14 := g103 I ((92 + (3 * x6)) + 2)
            refine ov_blk (ls2 := [(0, ov_r 90), (1, ov_i x), (2, ov_i y), (3, ov_i a), (4, ov_i b), (5, ov_i x5), (6, ov_i x6), (7, ov_i (92 + (3 * x6)))]) (st2 := [ov_i b, ov_i a, ov_i (h 103 ((92 + (3 * x6)) + 2)), ov_i x5]) (pc2 := 65) b_305_62_2 rfl rfl ?_
            refine ov_cS (as := [ov_i (h 103 ((92 + (3 * x6)) + 2)), ov_i a, ov_i b]) (st := [ov_i x5]) (d2 := d - 1) d_305_65 lk_Mo_299 rfl (Nat.le_of_ble_eq_true rfl) (by omega) (c_Mo_within (d - 1) (by omega) U I (h 103 ((92 + (3 * x6)) + 2)) a b (by omega) (by omega) (by omega)) ?_
            rintro _ _ _ ⟨v16, rfl, rfl, rfl, f15⟩
            show ov_R u d ov_m305 68 [(0, ov_r 90), (1, ov_i x), (2, ov_i y), (3, ov_i a), (4, ov_i b), (5, ov_i x5), (6, ov_i x6), (7, ov_i (92 + (3 * x6)))] [ov_i v16, ov_i x5] z h (P_Mo_wasBetween_90_t F z h x y a b)
            have f17 : (v16 = 0 ∨ v16 = 1) ∧ (v16 = 1 → a ≤ (h 103 ((92 + (3 * x6)) + 2)) ∧ (h 103 ((92 + (3 * x6)) + 2)) ≤ b) ∧ (v16 = 0 → (h 103 ((92 + (3 * x6)) + 2)) < a ∨ b < (h 103 ((92 + (3 * x6)) + 2))) := f15
            clear f15
            refine ov_ifeq (tgt := 78) d_305_68 (by decide) (by omega) (fun c18 => ?_) (fun c18 => ?_)
            · skip
              have f17_ : v16 = 0 := by omega
              have f19 : (h 103 ((92 + (3 * x6)) + 2)) < a ∨ b < (h 103 ((92 + (3 * x6)) + 2)) := f17.2.2 (by omega)
              clear f17
              refine ov_blk (ls2 := [(0, ov_r 90), (1, ov_i x), (2, ov_i y), (3, ov_i a), (4, ov_i b), (5, ov_i (ov_or x5 0)), (6, ov_i x6), (7, ov_i (92 + (3 * x6)))]) (st2 := []) (pc2 := 82) b_305_78_3 rfl rfl ?_
              have g20 := ov_org x5 0
              have st := ft_b_s (s := h 103) (x := x) (y := y) (a := a) (b := b) (i := x6) (v := 0) (by omega) (by omega) (u := x5) (by omega)
              refine ov_blk (ls2 := [(0, ov_r 90), (1, ov_i x), (2, ov_i y), (3, ov_i a), (4, ov_i b), (5, ov_i (ov_or x5 0)), (6, ov_i (x6 + 1)), (7, ov_i (92 + (3 * x6)))]) (st2 := []) (pc2 := 85) b_305_82_1 rfl rfl ?_
              refine ov_goto (tgt := 6) d_305_85 (by decide) ?_
              refine ov_sub (ls2 := [(0, ov_r 90), (1, ov_i x), (2, ov_i y), (3, ov_i a), (4, ov_i b), (5, ov_i (ov_or x5 0)), (6, ov_i (x6 + 1))]) (List.Sublist.subset (by repeat (first | exact List.Sublist.refl _ | apply List.Sublist.cons_cons | apply List.Sublist.cons))) ?_
              exact ih2 (ov_or x5 0) (x6 + 1) (by show ov_g (ov_or x5 0) ∧ 0 ≤ (x6 + 1) ∧ (x6 + 1) ≤ (h 103 59) ∧ (ov_or x5 0) = ft_b (h 103) x y a b (Int.toNat (x6 + 1)); omega) (by omega)
            · skip
              have f17_ : v16 = 1 := by omega
              have f21 : a ≤ (h 103 ((92 + (3 * x6)) + 2)) ∧ (h 103 ((92 + (3 * x6)) + 2)) ≤ b := f17.2.1 (by omega)
              clear f17
              refine ov_blk (ls2 := [(0, ov_r 90), (1, ov_i x), (2, ov_i y), (3, ov_i a), (4, ov_i b), (5, ov_i x5), (6, ov_i x6), (7, ov_i (92 + (3 * x6)))]) (st2 := [ov_i (ov_shl 1 x6), ov_i x5]) (pc2 := 75) b_305_71_3 rfl rfl ?_
              have g22 := ov_shlg 1 x6
              refine ov_goto (tgt := 79) d_305_75 (by decide) ?_
              refine ov_blk (ls2 := [(0, ov_r 90), (1, ov_i x), (2, ov_i y), (3, ov_i a), (4, ov_i b), (5, ov_i (ov_or x5 (ov_shl 1 x6))), (6, ov_i x6), (7, ov_i (92 + (3 * x6)))]) (st2 := []) (pc2 := 82) b_305_79_2 rfl rfl ?_
              have g23 := ov_org x5 (ov_shl 1 x6)
              have st := ft_b_s (s := h 103) (x := x) (y := y) (a := a) (b := b) (i := x6) (v := (ov_shl 1 x6)) (by omega) (by omega) (u := x5) (by omega)
              refine ov_blk (ls2 := [(0, ov_r 90), (1, ov_i x), (2, ov_i y), (3, ov_i a), (4, ov_i b), (5, ov_i (ov_or x5 (ov_shl 1 x6))), (6, ov_i (x6 + 1)), (7, ov_i (92 + (3 * x6)))]) (st2 := []) (pc2 := 85) b_305_82_1 rfl rfl ?_
              refine ov_goto (tgt := 6) d_305_85 (by decide) ?_
              refine ov_sub (ls2 := [(0, ov_r 90), (1, ov_i x), (2, ov_i y), (3, ov_i a), (4, ov_i b), (5, ov_i (ov_or x5 (ov_shl 1 x6))), (6, ov_i (x6 + 1))]) (List.Sublist.subset (by repeat (first | exact List.Sublist.refl _ | apply List.Sublist.cons_cons | apply List.Sublist.cons))) ?_
              exact ih2 (ov_or x5 (ov_shl 1 x6)) (x6 + 1) (by show ov_g (ov_or x5 (ov_shl 1 x6)) ∧ 0 ≤ (x6 + 1) ∧ (x6 + 1) ≤ (h 103 59) ∧ (ov_or x5 (ov_shl 1 x6)) = ft_b (h 103) x y a b (Int.toNat (x6 + 1)); omega) (by omega)
  exact L4 9 0 0 (by show ov_g 0 ∧ 0 ≤ 0 ∧ 0 ≤ (h 103 59) ∧ 0 = ft_b (h 103) x y a b (Int.toNat 0); omega) (by omega)
abbrev P_Mo_fits0_90_t (F : ov_H × ov_Z) (z : ov_Z) (h : ov_H) (m : Int) (c : Int) (w : Int) : Option ov_V → ov_Z → ov_H → Prop := fun r0 z' h' => r0 = none ∧ ov_N F z' h' ∧ ((h' 90 2) = (h 90 2) ∧ (h' 90 7) = (h 90 7) ∧ (h' 90 8) = (h 90 8) ∧ (h' 90 13) = (h 90 13) ∧ (h' 90 20) = (h 90 20) ∧ (h' 90 22) = (h 90 22) ∧ (h' 90 25) = (h 90 25) ∧ (h' 90 26) = (h 90 26) ∧ (h' 90 28) = (h 90 28) ∧ (h' 90 29) = (h 90 29) ∧ (h' 90 30) = (h 90 30) ∧ (h' 90 34) = (h 90 34) ∧ (h 90 43) ≤ (h' 90 43) ∧ (h' 90 43) ≤ (h 90 43) + 1) ∧ h' 91 = h 91 ∧ h' 92 = h 92 ∧ h' 93 = h 93 ∧ h' 94 = h 94 ∧ h' 95 = h 95 ∧ h' 96 = h 96 ∧ h' 97 = h 97 ∧ h' 98 = h 98 ∧ h' 99 = h 99 ∧ h' 100 = h 100 ∧ h' 103 = h 103 ∧ h' 104 = h 104 ∧ h' 105 = h 105 ∧ h' 106 = h 106 ∧ h' 109 = h 109 ∧ h' 114 = h 114 ∧ (ft_HM (h' 90) = ft_fm (h 103 59) m c w (ft_HM (h 90)))
set_option maxHeartbeats 4000000 in
theorem c_Mo_fits0_90_t {u : ov_U} {F : ov_H × ov_Z} {z : ov_Z} {h : ov_H} (d : Nat) (hd : 0 ≤ d) (U : ov_cap u) (I : ov_N F z h) (m : Int) (c : Int) (w : Int) (g_m : ov_g m) (g_w : ov_g w) (p0 : 0 ≤ (h 90 43) ∧ (h 90 43) ≤ 100000) : ov_T u d ov_m306 [ov_r 90, ov_i m, ov_l c, ov_i w] z h (P_Mo_fits0_90_t F z h m c w) := by
  refine ov_en rfl (Nat.le_of_ble_eq_true rfl) ?_
  show ov_R u d ov_m306 0 [(0, ov_r 90), (1, ov_i m), (2, ov_l c), (4, ov_i w)] [] z h (P_Mo_fits0_90_t F z h m c w)
  have t59 := s103_59 I
  have sb := ft_shb t59
  refine ov_blk (ls2 := [(0, ov_r 90), (1, ov_i m), (2, ov_l c), (4, ov_i w)]) (st2 := [ov_r 90, ov_i 1, ov_i m]) (pc2 := 3) b_306_0_3 rfl rfl ?_
  refine ov_getf (v := ov_r 103) d_306_3 fl_Mo_102 (zb_90 I) (zs_90 I) (congrArg ov_r (rg_90_19 I)) ?_
  refine ov_blk (ls2 := [(0, ov_r 90), (1, ov_i m), (2, ov_l c), (4, ov_i w)]) (st2 := [ov_i 59, ov_r 103, ov_i 1, ov_i m]) (pc2 := 8) b_306_6_1 rfl rfl ?_
  refine ov_iald d_306_8 (zb_103 I) (zs_103 I) (by omega) ?_
  have g1 := s103_59 I
  refine ov_blk (ls2 := [(0, ov_r 90), (1, ov_i m), (2, ov_l c), (4, ov_i w)]) (st2 := [ov_i ((ov_shl 1 (h 103 59)) - 1), ov_i m]) (pc2 := 12) b_306_9_3 rfl rfl ?_
  have g2 := ov_shlg 1 (h 103 59)
  refine ov_icne (tgt := 70) d_306_12 (by decide) (by omega) (by omega) (fun c3 => ?_) (fun c3 => ?_)
  · skip
    exact ov_retv (st := []) d_306_70 rfl ⟨rfl, I, ⟨rfl, rfl, rfl, rfl, rfl, rfl, rfl, rfl, rfl, rfl, rfl, rfl, (by show (h 90 43) ≤ (h 90 43) ∧ (h 90 43) ≤ (h 90 43) + 1; omega)⟩, rfl, rfl, rfl, rfl, rfl, rfl, rfl, rfl, rfl, rfl, rfl, rfl, rfl, rfl, rfl, rfl, (ft_fm_0 (by omega))⟩
  · skip
    refine ov_blk (ls2 := [(0, ov_r 90), (1, ov_i m), (2, ov_l c), (4, ov_i w)]) (st2 := [ov_r 90, ov_r 90]) (pc2 := 17) b_306_15_2 rfl rfl ?_
    refine ov_getf (v := ov_l (h 90 43)) d_306_17 fl_Mo_461 (zb_90 I) (zs_90 I) rfl ?_
    refine ov_blk (ls2 := [(0, ov_r 90), (1, ov_i m), (2, ov_l c), (4, ov_i w)]) (st2 := [ov_i (ov_lcmp (h 90 43) 0), ov_r 90]) (pc2 := 22) b_306_20_2 rfl rfl ?_
    have g4 := ov_lcg (h 90 43) 0
    have g5 := ov_lcs (a := (h 90 43)) (b := 0) (by omega) (by omega)
    refine ov_ifne (tgt := 30) d_306_22 (by decide) (by omega) (fun c6 => ?_) (fun c6 => ?_)
    · skip
      refine ov_blk (ls2 := [(0, ov_r 90), (1, ov_i m), (2, ov_l c), (4, ov_i w)]) (st2 := [ov_r 90, ov_r 90]) (pc2 := 31) b_306_30_1 rfl rfl ?_
      refine ov_getf (v := ov_i (h 90 44)) d_306_31 fl_Mo_465 (zb_90 I) (zs_90 I) rfl ?_
      have g7 := rg_90_44 I
      refine ov_putf (x := (h 90 44)) d_306_34 fl_Mo_465 (zb_90 I) (zs_90 I) rfl nk_0 rfl ?_
      have I8 := up_90_44 (x := (h 90 44)) I (by omega)
      refine ov_blk (ls2 := [(0, ov_r 90), (1, ov_i m), (2, ov_l c), (4, ov_i w)]) (st2 := [ov_r 90, ov_r 90]) (pc2 := 39) b_306_37_2 rfl rfl ?_
      refine ov_getf (v := ov_l (h 90 43)) d_306_39 fl_Mo_461 (zb_90 I8) (zs_90 I8) rfl ?_
      refine ov_blk (ls2 := [(0, ov_r 90), (1, ov_i m), (2, ov_l c), (4, ov_i w)]) (st2 := [ov_i (ov_lcmp (h 90 43) 0), ov_r 90]) (pc2 := 44) b_306_42_2 rfl rfl ?_
      have g9 := ov_lcg (h 90 43) 0
      have g10 := ov_lcs (a := (h 90 43)) (b := 0) (by omega) (by omega)
      refine ov_ifne (tgt := 51) d_306_44 (by decide) (by omega) (fun c11 => ?_) (fun c11 => ?_)
      · skip
        refine ov_blk (ls2 := [(0, ov_r 90), (1, ov_i m), (2, ov_l c), (4, ov_i w)]) (st2 := [ov_r 90, ov_r 90]) (pc2 := 52) b_306_51_1 rfl rfl ?_
        refine ov_getf (v := ov_l (h 90 45)) d_306_52 fl_Mo_468 (zb_90 I8) (zs_90 I8) rfl ?_
        refine ov_blk (ls2 := [(0, ov_r 90), (1, ov_i m), (2, ov_l c), (4, ov_i w)]) (st2 := [ov_l (ov_land (h 90 45) c), ov_r 90]) (pc2 := 57) b_306_55_2 rfl rfl ?_
        refine ov_putf (x := (ov_land (h 90 45) c)) d_306_57 fl_Mo_468 (zb_90 I8) (zs_90 I8) rfl nk_1 rfl ?_
        have I12 := up_90_45 (x := (ov_land (h 90 45) c)) I8
        refine ov_blk (ls2 := [(0, ov_r 90), (1, ov_i m), (2, ov_l c), (4, ov_i w)]) (st2 := [ov_r 90, ov_r 90]) (pc2 := 62) b_306_60_2 rfl rfl ?_
        refine ov_getf (v := ov_l (h 90 43)) d_306_62 fl_Mo_461 (zb_90 I12) (zs_90 I12) rfl ?_
        refine ov_blk (ls2 := [(0, ov_r 90), (1, ov_i m), (2, ov_l c), (4, ov_i w)]) (st2 := [ov_l ((h 90 43) + 1), ov_r 90]) (pc2 := 67) b_306_65_2 rfl rfl ?_
        refine ov_putf (x := ((h 90 43) + 1)) d_306_67 fl_Mo_461 (zb_90 I12) (zs_90 I12) rfl nk_1 rfl ?_
        have I13 := up_90_43 (x := ((h 90 43) + 1)) I12
        exact ov_retv (st := []) d_306_70 rfl ⟨rfl, I13, ⟨rfl, rfl, rfl, rfl, rfl, rfl, rfl, rfl, rfl, rfl, rfl, rfl, (by show (h 90 43) ≤ ((h 90 43) + 1) ∧ ((h 90 43) + 1) ≤ (h 90 43) + 1; omega)⟩, rfl, rfl, rfl, rfl, rfl, rfl, rfl, rfl, rfl, rfl, rfl, rfl, rfl, rfl, rfl, rfl, (show (((h 90 43) + 1), (h 90 44), (ov_land (h 90 45) c)) = _ from ft_fm_1 (by omega) rfl (Or.inr ⟨(by show ¬ h 90 43 = 0; omega), rfl, rfl⟩))⟩
      · omega
    · skip
      refine ov_blk (ls2 := [(0, ov_r 90), (1, ov_i m), (2, ov_l c), (4, ov_i w)]) (st2 := [ov_i w, ov_r 90]) (pc2 := 27) b_306_25_1 rfl rfl ?_
      refine ov_goto (tgt := 34) d_306_27 (by decide) ?_
      refine ov_putf (x := w) d_306_34 fl_Mo_465 (zb_90 I) (zs_90 I) rfl nk_0 rfl ?_
      have I14 := up_90_44 (x := w) I (by omega)
      refine ov_blk (ls2 := [(0, ov_r 90), (1, ov_i m), (2, ov_l c), (4, ov_i w)]) (st2 := [ov_r 90, ov_r 90]) (pc2 := 39) b_306_37_2 rfl rfl ?_
      refine ov_getf (v := ov_l (h 90 43)) d_306_39 fl_Mo_461 (zb_90 I14) (zs_90 I14) rfl ?_
      refine ov_blk (ls2 := [(0, ov_r 90), (1, ov_i m), (2, ov_l c), (4, ov_i w)]) (st2 := [ov_i (ov_lcmp (h 90 43) 0), ov_r 90]) (pc2 := 44) b_306_42_2 rfl rfl ?_
      have g15 := ov_lcg (h 90 43) 0
      have g16 := ov_lcs (a := (h 90 43)) (b := 0) (by omega) (by omega)
      refine ov_ifne (tgt := 51) d_306_44 (by decide) (by omega) (fun c17 => ?_) (fun c17 => ?_)
      · omega
      · skip
        refine ov_blk (ls2 := [(0, ov_r 90), (1, ov_i m), (2, ov_l c), (4, ov_i w)]) (st2 := [ov_l c, ov_r 90]) (pc2 := 48) b_306_47_1 rfl rfl ?_
        refine ov_goto (tgt := 57) d_306_48 (by decide) ?_
        refine ov_putf (x := c) d_306_57 fl_Mo_468 (zb_90 I14) (zs_90 I14) rfl nk_1 rfl ?_
        have I18 := up_90_45 (x := c) I14
        refine ov_blk (ls2 := [(0, ov_r 90), (1, ov_i m), (2, ov_l c), (4, ov_i w)]) (st2 := [ov_r 90, ov_r 90]) (pc2 := 62) b_306_60_2 rfl rfl ?_
        refine ov_getf (v := ov_l (h 90 43)) d_306_62 fl_Mo_461 (zb_90 I18) (zs_90 I18) rfl ?_
        refine ov_blk (ls2 := [(0, ov_r 90), (1, ov_i m), (2, ov_l c), (4, ov_i w)]) (st2 := [ov_l ((h 90 43) + 1), ov_r 90]) (pc2 := 67) b_306_65_2 rfl rfl ?_
        refine ov_putf (x := ((h 90 43) + 1)) d_306_67 fl_Mo_461 (zb_90 I18) (zs_90 I18) rfl nk_1 rfl ?_
        have I19 := up_90_43 (x := ((h 90 43) + 1)) I18
        exact ov_retv (st := []) d_306_70 rfl ⟨rfl, I19, ⟨rfl, rfl, rfl, rfl, rfl, rfl, rfl, rfl, rfl, rfl, rfl, rfl, (by show (h 90 43) ≤ ((h 90 43) + 1) ∧ ((h 90 43) + 1) ≤ (h 90 43) + 1; omega)⟩, rfl, rfl, rfl, rfl, rfl, rfl, rfl, rfl, rfl, rfl, rfl, rfl, rfl, rfl, rfl, rfl, (show (((h 90 43) + 1), w, c) = _ from ft_fm_1 (by omega) rfl (Or.inl ⟨(by show h 90 43 = 0; omega), rfl, rfl⟩))⟩
abbrev P_Mo_goesOn_90_t (F : ov_H × ov_Z) (z : ov_Z) (h : ov_H) (x : Int) (y : Int) (s : Int) (m : Int) (co : Int) (ws : Int) : Option ov_V → ov_Z → ov_H → Prop := fun r0 z' h' => r0 = none ∧ ov_N F z' h' ∧ ((h' 90 2) = (h 90 2) ∧ (h' 90 7) = (h 90 7) ∧ (h' 90 8) = (h 90 8) ∧ (h' 90 13) = (h 90 13) ∧ (h' 90 20) = (h 90 20) ∧ (h' 90 22) = (h 90 22) ∧ (h' 90 25) = (h 90 25) ∧ (h' 90 26) = (h 90 26) ∧ (h' 90 28) = (h 90 28) ∧ (h' 90 29) = (h 90 29) ∧ (h' 90 30) = (h 90 30) ∧ (h' 90 34) = (h 90 34) ∧ (h 90 43) ≤ (h' 90 43) ∧ (h' 90 43) ≤ (h 90 43) + ft_p (Int.toNat (13 - x - y))) ∧ h' 91 = h 91 ∧ h' 92 = h 92 ∧ h' 93 = h 93 ∧ h' 94 = h 94 ∧ h' 95 = h 95 ∧ h' 96 = h 96 ∧ h' 97 = h 97 ∧ h' 98 = h 98 ∧ h' 99 = h 99 ∧ h' 100 = h 100 ∧ h' 103 = h 103 ∧ h' 104 = h 104 ∧ h' 105 = h 105 ∧ h' 106 = h 106 ∧ h' 109 = h 109 ∧ h' 114 = h 114 ∧ (ft_HM (h' 90) = ft_m (h 96) (h 103) (h 103 59) (Int.toNat (14 - x - y)) x y s m co ws (ft_HM (h 90)))
set_option maxHeartbeats 4000000 in
theorem c_Mo_goesOn_90_t {u : ov_U} {F : ov_H × ov_Z} (k : Nat) (HV : ∀ k' : Nat, k' < k → ∀ {z : ov_Z} {h : ov_H} (d : Nat) (hd : (10 + 2 * k' + 1) ≤ d) (U : ov_cap u) (I : ov_N F z h) (x : Int) (y : Int) (s : Int) (m : Int) (co : Int) (ws : Int) (g_x : ov_g x) (g_y : ov_g y) (g_s : ov_g s) (g_m : ov_g m) (g_ws : ov_g ws) (p0 : 0 ≤ x ∧ x ≤ 5 ∧ 0 ≤ y ∧ y ≤ 8) (p1 : x < (h 96 0) ∧ y < (h 96 1)) (p2 : x + y + (k' : Int) = 13) (p3 : 0 ≤ s ∧ s + 89 * (k' : Int) ≤ 3000000) (p4 : 0 ≤ (h 90 43) ∧ (h 90 43) + ft_p (Int.toNat (13 - x - y)) ≤ 20000) (W : ov_WT (h 96)), ov_T u d ov_m304 [ov_r 90, ov_i x, ov_i y, ov_i s, ov_i m, ov_l co, ov_i ws] z h (P_Mo_goesOn_90_t F z h x y s m co ws)) {z : ov_Z} {h : ov_H} (d : Nat) (hd : (10 + 2 * k + 1) ≤ d) (U : ov_cap u) (I : ov_N F z h) (x : Int) (y : Int) (s : Int) (m : Int) (co : Int) (ws : Int) (g_x : ov_g x) (g_y : ov_g y) (g_s : ov_g s) (g_m : ov_g m) (g_ws : ov_g ws) (p0 : 0 ≤ x ∧ x ≤ 5 ∧ 0 ≤ y ∧ y ≤ 8) (p1 : x < (h 96 0) ∧ y < (h 96 1)) (p2 : x + y + (k : Int) = 13) (p3 : 0 ≤ s ∧ s + 89 * (k : Int) ≤ 3000000) (p4 : 0 ≤ (h 90 43) ∧ (h 90 43) + ft_p (Int.toNat (13 - x - y)) ≤ 20000) (W : ov_WT (h 96)) : ov_T u d ov_m304 [ov_r 90, ov_i x, ov_i y, ov_i s, ov_i m, ov_l co, ov_i ws] z h (P_Mo_goesOn_90_t F z h x y s m co ws) := by
  refine ov_en rfl (Nat.le_of_ble_eq_true rfl) ?_
  show ov_R u d ov_m304 0 [(0, ov_r 90), (1, ov_i x), (2, ov_i y), (3, ov_i s), (4, ov_i m), (5, ov_l co), (7, ov_i ws)] [] z h (P_Mo_goesOn_90_t F z h x y s m co ws)
  have t0 := t96_0 I
  have t1 := t96_1 I
  have fpx := ft_p_x (x := x) (y := y)
  refine ov_blk (ls2 := [(0, ov_r 90), (1, ov_i x), (2, ov_i y), (3, ov_i s), (4, ov_i m), (5, ov_l co), (7, ov_i ws)]) (st2 := [ov_i y, ov_i x, ov_r 90]) (pc2 := 3) b_304_0_3 rfl rfl ?_
  refine ov_cV (as := [ov_i x, ov_i y]) (st := []) (d2 := d - 1) d_304_3 lk_Mo_335 rfl (Nat.le_of_ble_eq_true rfl) (c := 1) (zb_90 I) (zs_90 I) ⟨by decide, rfl⟩ (by omega) (c_Mo_isHome_90 (d - 1) (by omega) U I x y (by omega) (by omega) (by omega)) ?_
  rintro _ _ _ ⟨v2, rfl, rfl, rfl, f1⟩
  show ov_R u d ov_m304 6 [(0, ov_r 90), (1, ov_i x), (2, ov_i y), (3, ov_i s), (4, ov_i m), (5, ov_l co), (7, ov_i ws)] [ov_i v2] z h (P_Mo_goesOn_90_t F z h x y s m co ws)
  have f3 : (v2 = 0 ∨ v2 = 1) ∧ (v2 = 1 → x = (h 96 0) - 1 ∧ y = (h 96 1) - 1) ∧ (v2 = 0 → ¬ (x = (h 96 0) - 1 ∧ y = (h 96 1) - 1)) := f1
  clear f1
  refine ov_blk (ls2 := [(0, ov_r 90), (1, ov_i x), (2, ov_i y), (3, ov_i s), (4, ov_i m), (5, ov_l co), (7, ov_i ws), (8, ov_i v2), (9, ov_l (ov_lor co (ov_lshl 1 ((6 * y) + x))))]) (st2 := []) (pc2 := 21) b_304_6_11 rfl rfl ?_
  obtain rfl | rfl : v2 = 0 ∨ v2 = 1 := by omega
  · skip
    have nh : ¬ (x = h 96 0 - 1 ∧ y = h 96 1 - 1) := by omega
    refine ov_blk (ls2 := [(0, ov_r 90), (1, ov_i x), (2, ov_i y), (3, ov_i s), (4, ov_i m), (5, ov_l co), (7, ov_i ws), (8, ov_i 0), (9, ov_l (ov_lor co (ov_lshl 1 ((6 * y) + x)))), (11, ov_i 0)]) (st2 := []) (pc2 := 24) b_304_21_2 rfl rfl ?_
    have L7 : ∀ (n4 : Nat) (x11 : Int) (z8 : ov_Z) (h9 : ov_H) (I10 : ov_N F z8 h9) (E11 : h9 91 = h 91) (E12 : h9 92 = h 92) (E13 : h9 93 = h 93) (E14 : h9 94 = h 94) (E15 : h9 95 = h 95) (E16 : h9 96 = h 96) (E17 : h9 97 = h 97) (E18 : h9 98 = h 98) (E19 : h9 99 = h 99) (E20 : h9 100 = h 100) (E21 : h9 103 = h 103) (E22 : h9 104 = h 104) (E23 : h9 105 = h 105) (E24 : h9 106 = h 106) (E25 : h9 109 = h 109) (E26 : h9 114 = h 114) (ya : ft_HM (h9 90) = ft_u (ft_mg (h 96) (h 103) (h 103 59) (ft_m (h 96) (h 103) (h 103 59) (Int.toNat (13 - x - y))) x y s m (ov_lor co (ov_lshl 1 (6 * y + x))) ws) x11 (ft_HM (h 90))) (q6 : 0 ≤ x11 ∧ x11 ≤ 2 ∧ (x11 = 0 ∧ (h9 90 43) = (h 90 43) ∨ x11 = 1 ∧ (h 90 43) ≤ (h9 90 43) ∧ (h9 90 43) ≤ (h 90 43) + ft_p (Int.toNat (13 - x - y - 1)) ∨ x11 = 2 ∧ (h 90 43) ≤ (h9 90 43) ∧ (h9 90 43) ≤ (h 90 43) + ft_p (Int.toNat (13 - x - y))) ∧ (h9 90 2) = (h 90 2) ∧ (h9 90 7) = (h 90 7) ∧ (h9 90 8) = (h 90 8) ∧ (h9 90 13) = (h 90 13) ∧ (h9 90 20) = (h 90 20) ∧ (h9 90 22) = (h 90 22) ∧ (h9 90 25) = (h 90 25) ∧ (h9 90 26) = (h 90 26) ∧ (h9 90 28) = (h 90 28) ∧ (h9 90 29) = (h 90 29) ∧ (h9 90 30) = (h 90 30) ∧ (h9 90 34) = (h 90 34)), 3 - x11 < (n4 : Int) → ov_R u d ov_m304 24 [(0, ov_r 90), (1, ov_i x), (2, ov_i y), (3, ov_i s), (4, ov_i m), (5, ov_l co), (7, ov_i ws), (8, ov_i 0), (9, ov_l (ov_lor co (ov_lshl 1 ((6 * y) + x)))), (11, ov_i x11)] [] z8 h9 (P_Mo_goesOn_90_t F z h x y s m co ws) := by
      intro n4
      induction n4 with
      | zero =>
        intro x11 z8 h9 I10 E11 E12 E13 E14 E15 E16 E17 E18 E19 E20 E21 E22 E23 E24 E25 E26 ya q6 hn27
        exact absurd hn27 (by omega)
      | succ n4 ih5 =>
        intro x11 z8 h9 I10 E11 E12 E13 E14 E15 E16 E17 E18 E19 E20 E21 E22 E23 E24 E25 E26 ya q6 hn27
        refine ov_blk (ls2 := [(0, ov_r 90), (1, ov_i x), (2, ov_i y), (3, ov_i s), (4, ov_i m), (5, ov_l co), (7, ov_i ws), (8, ov_i 0), (9, ov_l (ov_lor co (ov_lshl 1 ((6 * y) + x)))), (11, ov_i x11)]) (st2 := [ov_i 2, ov_i x11]) (pc2 := 27) b_304_24_2 rfl rfl ?_
        refine ov_iclt (tgt := 41) d_304_27 (by decide) (by omega) (by omega) (fun c28 => ?_) (fun c28 => ?_)
        · skip
          obtain rfl | rfl : x11 = 0 ∨ x11 = 1 := by omega
          · skip
            refine ov_blk (ls2 := [(0, ov_r 90), (1, ov_i x), (2, ov_i y), (3, ov_i s), (4, ov_i m), (5, ov_l co), (7, ov_i ws), (8, ov_i 0), (9, ov_l (ov_lor co (ov_lshl 1 ((6 * y) + x)))), (11, ov_i 0)]) (st2 := [ov_i 0]) (pc2 := 43) b_304_41_1 rfl rfl ?_
            refine ov_ifeq (tgt := 55) d_304_43 (by decide) (by omega) (fun c29 => ?_) (fun c29 => ?_)
            · skip
              refine ov_blk (ls2 := [(0, ov_r 90), (1, ov_i x), (2, ov_i y), (3, ov_i s), (4, ov_i m), (5, ov_l co), (7, ov_i ws), (8, ov_i 0), (9, ov_l (ov_lor co (ov_lshl 1 ((6 * y) + x)))), (11, ov_i 0)]) (st2 := [ov_i 0, ov_i y, ov_i x, ov_r 90]) (pc2 := 60) b_304_55_4 rfl rfl ?_
              refine ov_cV (as := [ov_i x, ov_i y, ov_i 0]) (st := []) (d2 := d - 1) d_304_60 lk_Mo_309 rfl (Nat.le_of_ble_eq_true rfl) (c := 1) (zb_90 I10) (zs_90 I10) ⟨by decide, rfl⟩ (by omega) (c_Mo_canGo_90 (d - 1) (by omega) U I10 x y 0 (by omega) (by omega) (by omega) (by omega) (by omega)) ?_
              rintro _ _ _ ⟨v31, rfl, rfl, rfl, f30⟩
              show ov_R u d ov_m304 63 [(0, ov_r 90), (1, ov_i x), (2, ov_i y), (3, ov_i s), (4, ov_i m), (5, ov_l co), (7, ov_i ws), (8, ov_i 0), (9, ov_l (ov_lor co (ov_lshl 1 ((6 * y) + x)))), (11, ov_i 0)] [ov_i v31] z8 h9 (P_Mo_goesOn_90_t F z h x y s m co ws)
              rw [show h9 96 = h 96 from E16] at f30
              have f32 : (v31 = 0 ∨ v31 = 1) ∧ v31 = ov_cgi (h 96) x y (0 : Int) ∧ (v31 = 1 → (((0 : Int) = 0 → x < (h 96 0) - 1) ∧ (¬ (0 : Int) = 0 → y < (h 96 1) - 1)) ∧ (((h 96 (10 + 4 * (6 * y + x))) = 1 ∨ (h 96 (10 + 4 * (6 * y + x))) = 2) → ((0 : Int) = 0 → 0 < (h 96 (10 + 4 * (6 * y + x) + 3))) ∧ (¬ (0 : Int) = 0 → (h 96 (10 + 4 * (6 * y + x) + 3)) < (h 96 (10 + 4 * (6 * y + x) + 1))))) := f30
              clear f30
              refine ov_ifeq (tgt := 158) d_304_63 (by decide) (by omega) (fun c33 => ?_) (fun c33 => ?_)
              · skip
                have f32_ : v31 = 0 := by omega
                have f34 : v31 = ov_cgi (h 96) x y (0 : Int) := f32.2.1
                clear f32
                refine ov_blk (ls2 := [(0, ov_r 90), (1, ov_i x), (2, ov_i y), (3, ov_i s), (4, ov_i m), (5, ov_l co), (7, ov_i ws), (8, ov_i 0), (9, ov_l (ov_lor co (ov_lshl 1 ((6 * y) + x)))), (11, ov_i (0 + 1))]) (st2 := []) (pc2 := 161) b_304_158_1 rfl rfl ?_
                refine ov_goto (tgt := 24) d_304_161 (by decide) ?_
                have tz : ft_HM (h9 90) = (ft_mg (h 96) (h 103) (h 103 59) (ft_m (h 96) (h 103) (h 103 59) (Int.toNat (13 - x - y))) x y s m (ov_lor co (ov_lshl 1 (6 * y + x))) ws) 0 (ft_HM (h9 90)) := ft_mg_no (by omega)
                exact ih5 (0 + 1) _ _ I10 E11 E12 E13 E14 E15 E16 E17 E18 E19 E20 E21 E22 E23 E24 E25 E26 (ft_u_1 (Eq.trans tz (congrArg ((ft_mg (h 96) (h 103) (h 103 59) (ft_m (h 96) (h 103) (h 103 59) (Int.toNat (13 - x - y))) x y s m (ov_lor co (ov_lshl 1 (6 * y + x))) ws) 0) ya))) (by show 0 ≤ (0 + 1) ∧ (0 + 1) ≤ 2 ∧ ((0 + 1) = 0 ∧ (h9 90 43) = (h 90 43) ∨ (0 + 1) = 1 ∧ (h 90 43) ≤ (h9 90 43) ∧ (h9 90 43) ≤ (h 90 43) + ft_p (Int.toNat (13 - x - y - 1)) ∨ (0 + 1) = 2 ∧ (h 90 43) ≤ (h9 90 43) ∧ (h9 90 43) ≤ (h 90 43) + ft_p (Int.toNat (13 - x - y))) ∧ (h9 90 2) = (h 90 2) ∧ (h9 90 7) = (h 90 7) ∧ (h9 90 8) = (h 90 8) ∧ (h9 90 13) = (h 90 13) ∧ (h9 90 20) = (h 90 20) ∧ (h9 90 22) = (h 90 22) ∧ (h9 90 25) = (h 90 25) ∧ (h9 90 26) = (h 90 26) ∧ (h9 90 28) = (h 90 28) ∧ (h9 90 29) = (h 90 29) ∧ (h9 90 30) = (h 90 30) ∧ (h9 90 34) = (h 90 34); omega) (by omega)
              · skip
                have f32_ : v31 = 1 := by omega
                have f35 : v31 = ov_cgi (h 96) x y (0 : Int) := f32.2.1
                have f36 : (((0 : Int) = 0 → x < (h 96 0) - 1) ∧ (¬ (0 : Int) = 0 → y < (h 96 1) - 1)) ∧ (((h 96 (10 + 4 * (6 * y + x))) = 1 ∨ (h 96 (10 + 4 * (6 * y + x))) = 2) → ((0 : Int) = 0 → 0 < (h 96 (10 + 4 * (6 * y + x) + 3))) ∧ (¬ (0 : Int) = 0 → (h 96 (10 + 4 * (6 * y + x) + 3)) < (h 96 (10 + 4 * (6 * y + x) + 1)))) := f32.2.2 (by omega)
                clear f32
                refine ov_blk (ls2 := [(0, ov_r 90), (1, ov_i x), (2, ov_i y), (3, ov_i s), (4, ov_i m), (5, ov_l co), (7, ov_i ws), (8, ov_i 0), (9, ov_l (ov_lor co (ov_lshl 1 ((6 * y) + x)))), (11, ov_i 0)]) (st2 := [ov_i 0]) (pc2 := 68) b_304_66_1 rfl rfl ?_
                refine ov_ifeq (tgt := 77) d_304_68 (by decide) (by omega) (fun c37 => ?_) (fun c37 => ?_)
                · skip
                  refine ov_blk (ls2 := [(0, ov_r 90), (1, ov_i x), (2, ov_i y), (3, ov_i s), (4, ov_i m), (5, ov_l co), (7, ov_i ws), (8, ov_i 0), (9, ov_l (ov_lor co (ov_lshl 1 ((6 * y) + x)))), (11, ov_i 0)]) (st2 := [ov_i s, ov_i 0, ov_i y, ov_i x, ov_r 90, ov_i s]) (pc2 := 84) b_304_77_6 rfl rfl ?_
                  have cf38 : h9 96 (10 + 4 * (6 * y + x)) = h 96 (10 + 4 * (6 * y + x)) := congrFun E16 (10 + 4 * (6 * y + x))
                  have cf39 : h9 96 (10 + 4 * (6 * y + x) + 3) = h 96 (10 + 4 * (6 * y + x) + 3) := congrFun E16 (10 + 4 * (6 * y + x) + 3)
                  have cf40 : h9 96 (10 + 4 * (6 * y + x) + 1) = h 96 (10 + 4 * (6 * y + x) + 1) := congrFun E16 (10 + 4 * (6 * y + x) + 1)
                  refine ov_cV (as := [ov_i x, ov_i y, ov_i 0, ov_i s]) (st := [ov_i s]) (d2 := d - 1) d_304_84 lk_Mo_315 rfl (Nat.le_of_ble_eq_true rfl) (c := 1) (zb_90 I10) (zs_90 I10) ⟨by decide, rfl⟩ (by omega) (c_Mo_waitFor_90 (d - 1) (by omega) U I10 x y 0 s (by omega) (by omega) (by omega) (by omega) (by omega) (by omega) (by omega) (by show (((h9 96 (10 + 4 * (6 * y + x))) = 1 ∨ (h9 96 (10 + 4 * (6 * y + x))) = 2) → ((0 : Int) = 0 → 0 < (h9 96 (10 + 4 * (6 * y + x) + 3))) ∧ (¬ (0 : Int) = 0 → (h9 96 (10 + 4 * (6 * y + x) + 3)) < (h9 96 (10 + 4 * (6 * y + x) + 1)))); omega) (by rw [show h9 96 = h 96 from E16]; exact W)) ?_
                  rintro _ _ _ ⟨v42, rfl, rfl, rfl, f41⟩
                  show ov_R u d ov_m304 87 [(0, ov_r 90), (1, ov_i x), (2, ov_i y), (3, ov_i s), (4, ov_i m), (5, ov_l co), (7, ov_i ws), (8, ov_i 0), (9, ov_l (ov_lor co (ov_lshl 1 ((6 * y) + x)))), (11, ov_i 0)] [ov_i v42, ov_i s] z8 h9 (P_Mo_goesOn_90_t F z h x y s m co ws)
                  rw [show h9 96 = h 96 from E16] at f41
                  have f43 : 0 ≤ v42 ∧ v42 ≤ 59 ∧ v42 = ov_wm (h 96) (6 * y + x) (0 : Int) s := f41
                  clear f41
                  refine ov_blk (ls2 := [(0, ov_r 90), (1, ov_i x), (2, ov_i y), (3, ov_i s), (4, ov_i m), (5, ov_l co), (7, ov_i ws), (8, ov_i 0), (9, ov_l (ov_lor co (ov_lshl 1 ((6 * y) + x)))), (11, ov_i 0), (12, ov_i (s + v42))]) (st2 := [ov_i (s + v42), ov_i s, ov_i y, ov_i x, ov_r 90, ov_i m]) (pc2 := 98) b_304_87_8 rfl rfl ?_
                  refine ov_cV (as := [ov_i x, ov_i y, ov_i s, ov_i (s + v42)]) (st := [ov_i m]) (d2 := d - 1) d_304_98 lk_Mo_450 rfl (Nat.le_of_ble_eq_true rfl) (c := 1) (zb_90 I10) (zs_90 I10) ⟨by decide, rfl⟩ (by omega) (c_Mo_wasBetween_90_t (d - 1) (by omega) U I10 x y s (s + v42) (by omega) (by omega) (by omega) (by omega)) ?_
                  rintro _ _ _ ⟨v45, rfl, rfl, rfl, f44⟩
                  show ov_R u d ov_m304 101 [(0, ov_r 90), (1, ov_i x), (2, ov_i y), (3, ov_i s), (4, ov_i m), (5, ov_l co), (7, ov_i ws), (8, ov_i 0), (9, ov_l (ov_lor co (ov_lshl 1 ((6 * y) + x)))), (11, ov_i 0), (12, ov_i (s + v42))] [ov_i v45, ov_i m] z8 h9 (P_Mo_goesOn_90_t F z h x y s m co ws)
                  rw [show h9 103 = h 103 from E21] at f44
                  have f46 : -2147483648 ≤ v45 ∧ v45 ≤ 2147483647 ∧ v45 = ft_b (h 103) x y s (s + v42) (Int.toNat (h 103 59)) := f44
                  clear f44
                  refine ov_blk (ls2 := [(0, ov_r 90), (1, ov_i x), (2, ov_i y), (3, ov_i s), (4, ov_i m), (5, ov_l co), (7, ov_i ws), (8, ov_i 0), (9, ov_l (ov_lor co (ov_lshl 1 ((6 * y) + x)))), (11, ov_i 0), (12, ov_i (s + v42)), (13, ov_i (ov_or m v45))]) (st2 := [ov_i 0]) (pc2 := 106) b_304_101_3 rfl rfl ?_
                  have g47 := ov_org m v45
                  refine ov_ifeq (tgt := 122) d_304_106 (by decide) (by omega) (fun c48 => ?_) (fun c48 => ?_)
                  · skip
                    refine ov_blk (ls2 := [(0, ov_r 90), (1, ov_i x), (2, ov_i y), (3, ov_i s), (4, ov_i m), (5, ov_l co), (7, ov_i ws), (8, ov_i 0), (9, ov_l (ov_lor co (ov_lshl 1 ((6 * y) + x)))), (11, ov_i 0), (12, ov_i (s + v42)), (13, ov_i (ov_or m v45))]) (st2 := [ov_r 90, ov_i (s + v42), ov_i (y + 0), ov_i ((x + 1) - 0), ov_r 90]) (pc2 := 136) b_304_122_11 rfl rfl ?_
                    refine ov_getf (v := ov_r 96) d_304_136 fl_Mo_81 (zb_90 I10) (zs_90 I10) (congrArg ov_r (rg_90_10 I10)) ?_
                    refine ov_blk (ls2 := [(0, ov_r 90), (1, ov_i x), (2, ov_i y), (3, ov_i s), (4, ov_i m), (5, ov_l co), (7, ov_i ws), (8, ov_i 0), (9, ov_l (ov_lor co (ov_lshl 1 ((6 * y) + x)))), (11, ov_i 0), (12, ov_i (s + v42)), (13, ov_i (ov_or m v45))]) (st2 := [ov_i 2, ov_r 96, ov_i (s + v42), ov_i (y + 0), ov_i ((x + 1) - 0), ov_r 90]) (pc2 := 140) b_304_139_1 rfl rfl ?_
                    refine ov_iald d_304_140 (zb_96 I10) (zs_96 I10) (by omega) ?_
                    rw [show h9 96 = h 96 from E16]
                    have g49 := t96_2 I
                    refine ov_blk (ls2 := [(0, ov_r 90), (1, ov_i x), (2, ov_i y), (3, ov_i s), (4, ov_i m), (5, ov_l co), (7, ov_i ws), (8, ov_i 0), (9, ov_l (ov_lor co (ov_lshl 1 ((6 * y) + x)))), (11, ov_i 0), (12, ov_i (s + v42)), (13, ov_i (ov_or m v45))]) (st2 := [ov_i (ov_or ws (ov_shl 0 (x + y))), ov_l (ov_lor co (ov_lshl 1 ((6 * y) + x))), ov_i (ov_or m v45), ov_i ((s + v42) + (h 96 2)), ov_i (y + 0), ov_i ((x + 1) - 0), ov_r 90]) (pc2 := 155) b_304_141_10 rfl rfl ?_
                    have g50 := ov_shlg 0 (x + y)
                    have g51 := ov_org ws (ov_shl 0 (x + y))
                    have fq : ft_p (Int.toNat (13 - ((x + 1) - 0) - (y + 0))) = ft_p (Int.toNat (13 - x - y - 1)) := by rw [show 13 - ((x + 1) - 0) - (y + 0) = 13 - x - y - 1 by omega]
                    have cf52 : h9 96 (0) = h 96 (0) := congrFun E16 (0)
                    have cf53 : h9 96 (1) = h 96 (1) := congrFun E16 (1)
                    refine ov_cV (as := [ov_i ((x + 1) - 0), ov_i (y + 0), ov_i ((s + v42) + (h 96 2)), ov_i (ov_or m v45), ov_l (ov_lor co (ov_lshl 1 ((6 * y) + x))), ov_i (ov_or ws (ov_shl 0 (x + y)))]) (st := []) (d2 := d - 1) d_304_155 lk_Mo_457 rfl (Nat.le_of_ble_eq_true rfl) (c := 1) (zb_90 I10) (zs_90 I10) ⟨by decide, rfl⟩ (by omega) (HV (Int.toNat (13 - (((x + 1) - 0)) - ((y + 0)))) (by omega) (d - 1) (by omega) U I10 ((x + 1) - 0) (y + 0) ((s + v42) + (h 96 2)) (ov_or m v45) (ov_lor co (ov_lshl 1 ((6 * y) + x))) (ov_or ws (ov_shl 0 (x + y))) (by omega) (by omega) (by omega) (by omega) (by omega) (by omega) (by show ((x + 1) - 0) < (h9 96 0) ∧ (y + 0) < (h9 96 1); omega) (by omega) (by omega) (by show 0 ≤ (h9 90 43) ∧ (h9 90 43) + ft_p (Int.toNat (13 - ((x + 1) - 0) - (y + 0))) ≤ 20000; omega) (by rw [show h9 96 = h 96 from E16]; exact W)) ?_
                    rintro _ z72 h73 ⟨rfl, I74, f54, e55, e56, e57, e58, e59, e60, e61, e62, e63, e64, e65, e66, e67, e68, e69, e70, y71⟩
                    have E75 : h73 91 = h 91 := Eq.trans e55 E11
                    have E76 : h73 92 = h 92 := Eq.trans e56 E12
                    have E77 : h73 93 = h 93 := Eq.trans e57 E13
                    have E78 : h73 94 = h 94 := Eq.trans e58 E14
                    have E79 : h73 95 = h 95 := Eq.trans e59 E15
                    have E80 : h73 96 = h 96 := Eq.trans e60 E16
                    have E81 : h73 97 = h 97 := Eq.trans e61 E17
                    have E82 : h73 98 = h 98 := Eq.trans e62 E18
                    have E83 : h73 99 = h 99 := Eq.trans e63 E19
                    have E84 : h73 100 = h 100 := Eq.trans e64 E20
                    have E85 : h73 103 = h 103 := Eq.trans e65 E21
                    have E86 : h73 104 = h 104 := Eq.trans e66 E22
                    have E87 : h73 105 = h 105 := Eq.trans e67 E23
                    have E88 : h73 106 = h 106 := Eq.trans e68 E24
                    have E89 : h73 109 = h 109 := Eq.trans e69 E25
                    have E90 : h73 114 = h 114 := Eq.trans e70 E26
                    show ov_R u d ov_m304 158 [(0, ov_r 90), (1, ov_i x), (2, ov_i y), (3, ov_i s), (4, ov_i m), (5, ov_l co), (7, ov_i ws), (8, ov_i 0), (9, ov_l (ov_lor co (ov_lshl 1 ((6 * y) + x)))), (11, ov_i 0), (12, ov_i (s + v42)), (13, ov_i (ov_or m v45))] [] z72 h73 (P_Mo_goesOn_90_t F z h x y s m co ws)
                    have f91 : (h73 90 2) = (h9 90 2) ∧ (h73 90 7) = (h9 90 7) ∧ (h73 90 8) = (h9 90 8) ∧ (h73 90 13) = (h9 90 13) ∧ (h73 90 20) = (h9 90 20) ∧ (h73 90 22) = (h9 90 22) ∧ (h73 90 25) = (h9 90 25) ∧ (h73 90 26) = (h9 90 26) ∧ (h73 90 28) = (h9 90 28) ∧ (h73 90 29) = (h9 90 29) ∧ (h73 90 30) = (h9 90 30) ∧ (h73 90 34) = (h9 90 34) ∧ (h9 90 43) ≤ (h73 90 43) ∧ (h73 90 43) ≤ (h9 90 43) + ft_p (Int.toNat (13 - ((x + 1) - 0) - (y + 0))) := f54
                    clear f54
                    rw [show h9 103 = h 103 from E21] at y71
                    rw [show h9 96 = h 96 from E16] at y71
                    have y71_ : ft_HM (h73 90) = ft_m (h 96) (h 103) (h 103 59) (Int.toNat (14 - ((x + 1) - 0) - (y + 0))) ((x + 1) - 0) (y + 0) ((s + v42) + (h 96 2)) (ov_or m v45) (ov_lor co (ov_lshl 1 ((6 * y) + x))) (ov_or ws (ov_shl 0 (x + y))) (ft_HM (h9 90)) := y71
                    have tz : ft_HM (h73 90) = (ft_mg (h 96) (h 103) (h 103 59) (ft_m (h 96) (h 103) (h 103 59) (Int.toNat (13 - x - y))) x y s m (ov_lor co (ov_lshl 1 (6 * y + x))) ws) 0 (ft_HM (h9 90)) := ft_mg_go (x2 := ((x + 1) - 0)) (y2 := (y + 0)) (out := s + v42) (t2 := ((s + v42) + (h 96 2))) (set := v45) (m2 := (ov_or m v45)) (w2 := (ov_or ws (ov_shl 0 (x + y)))) (by omega) (by omega) (by omega) (by omega) (by omega) (by omega) rfl rfl (Eq.trans y71_ (by rw [show Int.toNat (14 - ((x + 1) - 0) - (y + 0)) = Int.toNat (13 - x - y) by omega]))
                    refine ov_blk (ls2 := [(0, ov_r 90), (1, ov_i x), (2, ov_i y), (3, ov_i s), (4, ov_i m), (5, ov_l co), (7, ov_i ws), (8, ov_i 0), (9, ov_l (ov_lor co (ov_lshl 1 ((6 * y) + x)))), (11, ov_i (0 + 1)), (12, ov_i (s + v42)), (13, ov_i (ov_or m v45))]) (st2 := []) (pc2 := 161) b_304_158_1 rfl rfl ?_
                    refine ov_goto (tgt := 24) d_304_161 (by decide) ?_
                    refine ov_sub (ls2 := [(0, ov_r 90), (1, ov_i x), (2, ov_i y), (3, ov_i s), (4, ov_i m), (5, ov_l co), (7, ov_i ws), (8, ov_i 0), (9, ov_l (ov_lor co (ov_lshl 1 ((6 * y) + x)))), (11, ov_i (0 + 1))]) (List.Sublist.subset (by repeat (first | exact List.Sublist.refl _ | apply List.Sublist.cons_cons | apply List.Sublist.cons))) ?_
                    exact ih5 (0 + 1) _ _ I74 E75 E76 E77 E78 E79 E80 E81 E82 E83 E84 E85 E86 E87 E88 E89 E90 (ft_u_1 (Eq.trans tz (congrArg ((ft_mg (h 96) (h 103) (h 103 59) (ft_m (h 96) (h 103) (h 103 59) (Int.toNat (13 - x - y))) x y s m (ov_lor co (ov_lshl 1 (6 * y + x))) ws) 0) ya))) (by show 0 ≤ (0 + 1) ∧ (0 + 1) ≤ 2 ∧ ((0 + 1) = 0 ∧ (h73 90 43) = (h 90 43) ∨ (0 + 1) = 1 ∧ (h 90 43) ≤ (h73 90 43) ∧ (h73 90 43) ≤ (h 90 43) + ft_p (Int.toNat (13 - x - y - 1)) ∨ (0 + 1) = 2 ∧ (h 90 43) ≤ (h73 90 43) ∧ (h73 90 43) ≤ (h 90 43) + ft_p (Int.toNat (13 - x - y))) ∧ (h73 90 2) = (h 90 2) ∧ (h73 90 7) = (h 90 7) ∧ (h73 90 8) = (h 90 8) ∧ (h73 90 13) = (h 90 13) ∧ (h73 90 20) = (h 90 20) ∧ (h73 90 22) = (h 90 22) ∧ (h73 90 25) = (h 90 25) ∧ (h73 90 26) = (h 90 26) ∧ (h73 90 28) = (h 90 28) ∧ (h73 90 29) = (h 90 29) ∧ (h73 90 30) = (h 90 30) ∧ (h73 90 34) = (h 90 34); omega) (by omega)
                  · omega
                · omega
            · omega
          · skip
            refine ov_blk (ls2 := [(0, ov_r 90), (1, ov_i x), (2, ov_i y), (3, ov_i s), (4, ov_i m), (5, ov_l co), (7, ov_i ws), (8, ov_i 0), (9, ov_l (ov_lor co (ov_lshl 1 ((6 * y) + x)))), (11, ov_i 1)]) (st2 := [ov_i 0]) (pc2 := 43) b_304_41_1 rfl rfl ?_
            refine ov_ifeq (tgt := 55) d_304_43 (by decide) (by omega) (fun c92 => ?_) (fun c92 => ?_)
            · skip
              refine ov_blk (ls2 := [(0, ov_r 90), (1, ov_i x), (2, ov_i y), (3, ov_i s), (4, ov_i m), (5, ov_l co), (7, ov_i ws), (8, ov_i 0), (9, ov_l (ov_lor co (ov_lshl 1 ((6 * y) + x)))), (11, ov_i 1)]) (st2 := [ov_i 1, ov_i y, ov_i x, ov_r 90]) (pc2 := 60) b_304_55_4 rfl rfl ?_
              refine ov_cV (as := [ov_i x, ov_i y, ov_i 1]) (st := []) (d2 := d - 1) d_304_60 lk_Mo_309 rfl (Nat.le_of_ble_eq_true rfl) (c := 1) (zb_90 I10) (zs_90 I10) ⟨by decide, rfl⟩ (by omega) (c_Mo_canGo_90 (d - 1) (by omega) U I10 x y 1 (by omega) (by omega) (by omega) (by omega) (by omega)) ?_
              rintro _ _ _ ⟨v94, rfl, rfl, rfl, f93⟩
              show ov_R u d ov_m304 63 [(0, ov_r 90), (1, ov_i x), (2, ov_i y), (3, ov_i s), (4, ov_i m), (5, ov_l co), (7, ov_i ws), (8, ov_i 0), (9, ov_l (ov_lor co (ov_lshl 1 ((6 * y) + x)))), (11, ov_i 1)] [ov_i v94] z8 h9 (P_Mo_goesOn_90_t F z h x y s m co ws)
              rw [show h9 96 = h 96 from E16] at f93
              have f95 : (v94 = 0 ∨ v94 = 1) ∧ v94 = ov_cgi (h 96) x y (1 : Int) ∧ (v94 = 1 → (((1 : Int) = 0 → x < (h 96 0) - 1) ∧ (¬ (1 : Int) = 0 → y < (h 96 1) - 1)) ∧ (((h 96 (10 + 4 * (6 * y + x))) = 1 ∨ (h 96 (10 + 4 * (6 * y + x))) = 2) → ((1 : Int) = 0 → 0 < (h 96 (10 + 4 * (6 * y + x) + 3))) ∧ (¬ (1 : Int) = 0 → (h 96 (10 + 4 * (6 * y + x) + 3)) < (h 96 (10 + 4 * (6 * y + x) + 1))))) := f93
              clear f93
              refine ov_ifeq (tgt := 158) d_304_63 (by decide) (by omega) (fun c96 => ?_) (fun c96 => ?_)
              · skip
                have f95_ : v94 = 0 := by omega
                have f97 : v94 = ov_cgi (h 96) x y (1 : Int) := f95.2.1
                clear f95
                refine ov_blk (ls2 := [(0, ov_r 90), (1, ov_i x), (2, ov_i y), (3, ov_i s), (4, ov_i m), (5, ov_l co), (7, ov_i ws), (8, ov_i 0), (9, ov_l (ov_lor co (ov_lshl 1 ((6 * y) + x)))), (11, ov_i (1 + 1))]) (st2 := []) (pc2 := 161) b_304_158_1 rfl rfl ?_
                refine ov_goto (tgt := 24) d_304_161 (by decide) ?_
                have tz : ft_HM (h9 90) = (ft_mg (h 96) (h 103) (h 103 59) (ft_m (h 96) (h 103) (h 103 59) (Int.toNat (13 - x - y))) x y s m (ov_lor co (ov_lshl 1 (6 * y + x))) ws) 1 (ft_HM (h9 90)) := ft_mg_no (by omega)
                exact ih5 (1 + 1) _ _ I10 E11 E12 E13 E14 E15 E16 E17 E18 E19 E20 E21 E22 E23 E24 E25 E26 (ft_u_2 (Eq.trans tz (congrArg ((ft_mg (h 96) (h 103) (h 103 59) (ft_m (h 96) (h 103) (h 103 59) (Int.toNat (13 - x - y))) x y s m (ov_lor co (ov_lshl 1 (6 * y + x))) ws) 1) ya))) (by show 0 ≤ (1 + 1) ∧ (1 + 1) ≤ 2 ∧ ((1 + 1) = 0 ∧ (h9 90 43) = (h 90 43) ∨ (1 + 1) = 1 ∧ (h 90 43) ≤ (h9 90 43) ∧ (h9 90 43) ≤ (h 90 43) + ft_p (Int.toNat (13 - x - y - 1)) ∨ (1 + 1) = 2 ∧ (h 90 43) ≤ (h9 90 43) ∧ (h9 90 43) ≤ (h 90 43) + ft_p (Int.toNat (13 - x - y))) ∧ (h9 90 2) = (h 90 2) ∧ (h9 90 7) = (h 90 7) ∧ (h9 90 8) = (h 90 8) ∧ (h9 90 13) = (h 90 13) ∧ (h9 90 20) = (h 90 20) ∧ (h9 90 22) = (h 90 22) ∧ (h9 90 25) = (h 90 25) ∧ (h9 90 26) = (h 90 26) ∧ (h9 90 28) = (h 90 28) ∧ (h9 90 29) = (h 90 29) ∧ (h9 90 30) = (h 90 30) ∧ (h9 90 34) = (h 90 34); omega) (by omega)
              · skip
                have f95_ : v94 = 1 := by omega
                have f98 : v94 = ov_cgi (h 96) x y (1 : Int) := f95.2.1
                have f99 : (((1 : Int) = 0 → x < (h 96 0) - 1) ∧ (¬ (1 : Int) = 0 → y < (h 96 1) - 1)) ∧ (((h 96 (10 + 4 * (6 * y + x))) = 1 ∨ (h 96 (10 + 4 * (6 * y + x))) = 2) → ((1 : Int) = 0 → 0 < (h 96 (10 + 4 * (6 * y + x) + 3))) ∧ (¬ (1 : Int) = 0 → (h 96 (10 + 4 * (6 * y + x) + 3)) < (h 96 (10 + 4 * (6 * y + x) + 1)))) := f95.2.2 (by omega)
                clear f95
                refine ov_blk (ls2 := [(0, ov_r 90), (1, ov_i x), (2, ov_i y), (3, ov_i s), (4, ov_i m), (5, ov_l co), (7, ov_i ws), (8, ov_i 0), (9, ov_l (ov_lor co (ov_lshl 1 ((6 * y) + x)))), (11, ov_i 1)]) (st2 := [ov_i 0]) (pc2 := 68) b_304_66_1 rfl rfl ?_
                refine ov_ifeq (tgt := 77) d_304_68 (by decide) (by omega) (fun c100 => ?_) (fun c100 => ?_)
                · skip
                  refine ov_blk (ls2 := [(0, ov_r 90), (1, ov_i x), (2, ov_i y), (3, ov_i s), (4, ov_i m), (5, ov_l co), (7, ov_i ws), (8, ov_i 0), (9, ov_l (ov_lor co (ov_lshl 1 ((6 * y) + x)))), (11, ov_i 1)]) (st2 := [ov_i s, ov_i 1, ov_i y, ov_i x, ov_r 90, ov_i s]) (pc2 := 84) b_304_77_6 rfl rfl ?_
                  have cf101 : h9 96 (10 + 4 * (6 * y + x)) = h 96 (10 + 4 * (6 * y + x)) := congrFun E16 (10 + 4 * (6 * y + x))
                  have cf102 : h9 96 (10 + 4 * (6 * y + x) + 3) = h 96 (10 + 4 * (6 * y + x) + 3) := congrFun E16 (10 + 4 * (6 * y + x) + 3)
                  have cf103 : h9 96 (10 + 4 * (6 * y + x) + 1) = h 96 (10 + 4 * (6 * y + x) + 1) := congrFun E16 (10 + 4 * (6 * y + x) + 1)
                  refine ov_cV (as := [ov_i x, ov_i y, ov_i 1, ov_i s]) (st := [ov_i s]) (d2 := d - 1) d_304_84 lk_Mo_315 rfl (Nat.le_of_ble_eq_true rfl) (c := 1) (zb_90 I10) (zs_90 I10) ⟨by decide, rfl⟩ (by omega) (c_Mo_waitFor_90 (d - 1) (by omega) U I10 x y 1 s (by omega) (by omega) (by omega) (by omega) (by omega) (by omega) (by omega) (by show (((h9 96 (10 + 4 * (6 * y + x))) = 1 ∨ (h9 96 (10 + 4 * (6 * y + x))) = 2) → ((1 : Int) = 0 → 0 < (h9 96 (10 + 4 * (6 * y + x) + 3))) ∧ (¬ (1 : Int) = 0 → (h9 96 (10 + 4 * (6 * y + x) + 3)) < (h9 96 (10 + 4 * (6 * y + x) + 1)))); omega) (by rw [show h9 96 = h 96 from E16]; exact W)) ?_
                  rintro _ _ _ ⟨v105, rfl, rfl, rfl, f104⟩
                  show ov_R u d ov_m304 87 [(0, ov_r 90), (1, ov_i x), (2, ov_i y), (3, ov_i s), (4, ov_i m), (5, ov_l co), (7, ov_i ws), (8, ov_i 0), (9, ov_l (ov_lor co (ov_lshl 1 ((6 * y) + x)))), (11, ov_i 1)] [ov_i v105, ov_i s] z8 h9 (P_Mo_goesOn_90_t F z h x y s m co ws)
                  rw [show h9 96 = h 96 from E16] at f104
                  have f106 : 0 ≤ v105 ∧ v105 ≤ 59 ∧ v105 = ov_wm (h 96) (6 * y + x) (1 : Int) s := f104
                  clear f104
                  refine ov_blk (ls2 := [(0, ov_r 90), (1, ov_i x), (2, ov_i y), (3, ov_i s), (4, ov_i m), (5, ov_l co), (7, ov_i ws), (8, ov_i 0), (9, ov_l (ov_lor co (ov_lshl 1 ((6 * y) + x)))), (11, ov_i 1), (12, ov_i (s + v105))]) (st2 := [ov_i (s + v105), ov_i s, ov_i y, ov_i x, ov_r 90, ov_i m]) (pc2 := 98) b_304_87_8 rfl rfl ?_
                  refine ov_cV (as := [ov_i x, ov_i y, ov_i s, ov_i (s + v105)]) (st := [ov_i m]) (d2 := d - 1) d_304_98 lk_Mo_450 rfl (Nat.le_of_ble_eq_true rfl) (c := 1) (zb_90 I10) (zs_90 I10) ⟨by decide, rfl⟩ (by omega) (c_Mo_wasBetween_90_t (d - 1) (by omega) U I10 x y s (s + v105) (by omega) (by omega) (by omega) (by omega)) ?_
                  rintro _ _ _ ⟨v108, rfl, rfl, rfl, f107⟩
                  show ov_R u d ov_m304 101 [(0, ov_r 90), (1, ov_i x), (2, ov_i y), (3, ov_i s), (4, ov_i m), (5, ov_l co), (7, ov_i ws), (8, ov_i 0), (9, ov_l (ov_lor co (ov_lshl 1 ((6 * y) + x)))), (11, ov_i 1), (12, ov_i (s + v105))] [ov_i v108, ov_i m] z8 h9 (P_Mo_goesOn_90_t F z h x y s m co ws)
                  rw [show h9 103 = h 103 from E21] at f107
                  have f109 : -2147483648 ≤ v108 ∧ v108 ≤ 2147483647 ∧ v108 = ft_b (h 103) x y s (s + v105) (Int.toNat (h 103 59)) := f107
                  clear f107
                  refine ov_blk (ls2 := [(0, ov_r 90), (1, ov_i x), (2, ov_i y), (3, ov_i s), (4, ov_i m), (5, ov_l co), (7, ov_i ws), (8, ov_i 0), (9, ov_l (ov_lor co (ov_lshl 1 ((6 * y) + x)))), (11, ov_i 1), (12, ov_i (s + v105)), (13, ov_i (ov_or m v108))]) (st2 := [ov_i 0]) (pc2 := 106) b_304_101_3 rfl rfl ?_
                  have g110 := ov_org m v108
                  refine ov_ifeq (tgt := 122) d_304_106 (by decide) (by omega) (fun c111 => ?_) (fun c111 => ?_)
                  · skip
                    refine ov_blk (ls2 := [(0, ov_r 90), (1, ov_i x), (2, ov_i y), (3, ov_i s), (4, ov_i m), (5, ov_l co), (7, ov_i ws), (8, ov_i 0), (9, ov_l (ov_lor co (ov_lshl 1 ((6 * y) + x)))), (11, ov_i 1), (12, ov_i (s + v105)), (13, ov_i (ov_or m v108))]) (st2 := [ov_r 90, ov_i (s + v105), ov_i (y + 1), ov_i ((x + 1) - 1), ov_r 90]) (pc2 := 136) b_304_122_11 rfl rfl ?_
                    refine ov_getf (v := ov_r 96) d_304_136 fl_Mo_81 (zb_90 I10) (zs_90 I10) (congrArg ov_r (rg_90_10 I10)) ?_
                    refine ov_blk (ls2 := [(0, ov_r 90), (1, ov_i x), (2, ov_i y), (3, ov_i s), (4, ov_i m), (5, ov_l co), (7, ov_i ws), (8, ov_i 0), (9, ov_l (ov_lor co (ov_lshl 1 ((6 * y) + x)))), (11, ov_i 1), (12, ov_i (s + v105)), (13, ov_i (ov_or m v108))]) (st2 := [ov_i 2, ov_r 96, ov_i (s + v105), ov_i (y + 1), ov_i ((x + 1) - 1), ov_r 90]) (pc2 := 140) b_304_139_1 rfl rfl ?_
                    refine ov_iald d_304_140 (zb_96 I10) (zs_96 I10) (by omega) ?_
                    rw [show h9 96 = h 96 from E16]
                    have g112 := t96_2 I
                    refine ov_blk (ls2 := [(0, ov_r 90), (1, ov_i x), (2, ov_i y), (3, ov_i s), (4, ov_i m), (5, ov_l co), (7, ov_i ws), (8, ov_i 0), (9, ov_l (ov_lor co (ov_lshl 1 ((6 * y) + x)))), (11, ov_i 1), (12, ov_i (s + v105)), (13, ov_i (ov_or m v108))]) (st2 := [ov_i (ov_or ws (ov_shl 1 (x + y))), ov_l (ov_lor co (ov_lshl 1 ((6 * y) + x))), ov_i (ov_or m v108), ov_i ((s + v105) + (h 96 2)), ov_i (y + 1), ov_i ((x + 1) - 1), ov_r 90]) (pc2 := 155) b_304_141_10 rfl rfl ?_
                    have g113 := ov_shlg 1 (x + y)
                    have g114 := ov_org ws (ov_shl 1 (x + y))
                    have fq : ft_p (Int.toNat (13 - ((x + 1) - 1) - (y + 1))) = ft_p (Int.toNat (13 - x - y - 1)) := by rw [show 13 - ((x + 1) - 1) - (y + 1) = 13 - x - y - 1 by omega]
                    have cf115 : h9 96 (0) = h 96 (0) := congrFun E16 (0)
                    have cf116 : h9 96 (1) = h 96 (1) := congrFun E16 (1)
                    refine ov_cV (as := [ov_i ((x + 1) - 1), ov_i (y + 1), ov_i ((s + v105) + (h 96 2)), ov_i (ov_or m v108), ov_l (ov_lor co (ov_lshl 1 ((6 * y) + x))), ov_i (ov_or ws (ov_shl 1 (x + y)))]) (st := []) (d2 := d - 1) d_304_155 lk_Mo_457 rfl (Nat.le_of_ble_eq_true rfl) (c := 1) (zb_90 I10) (zs_90 I10) ⟨by decide, rfl⟩ (by omega) (HV (Int.toNat (13 - (((x + 1) - 1)) - ((y + 1)))) (by omega) (d - 1) (by omega) U I10 ((x + 1) - 1) (y + 1) ((s + v105) + (h 96 2)) (ov_or m v108) (ov_lor co (ov_lshl 1 ((6 * y) + x))) (ov_or ws (ov_shl 1 (x + y))) (by omega) (by omega) (by omega) (by omega) (by omega) (by omega) (by show ((x + 1) - 1) < (h9 96 0) ∧ (y + 1) < (h9 96 1); omega) (by omega) (by omega) (by show 0 ≤ (h9 90 43) ∧ (h9 90 43) + ft_p (Int.toNat (13 - ((x + 1) - 1) - (y + 1))) ≤ 20000; omega) (by rw [show h9 96 = h 96 from E16]; exact W)) ?_
                    rintro _ z135 h136 ⟨rfl, I137, f117, e118, e119, e120, e121, e122, e123, e124, e125, e126, e127, e128, e129, e130, e131, e132, e133, y134⟩
                    have E138 : h136 91 = h 91 := Eq.trans e118 E11
                    have E139 : h136 92 = h 92 := Eq.trans e119 E12
                    have E140 : h136 93 = h 93 := Eq.trans e120 E13
                    have E141 : h136 94 = h 94 := Eq.trans e121 E14
                    have E142 : h136 95 = h 95 := Eq.trans e122 E15
                    have E143 : h136 96 = h 96 := Eq.trans e123 E16
                    have E144 : h136 97 = h 97 := Eq.trans e124 E17
                    have E145 : h136 98 = h 98 := Eq.trans e125 E18
                    have E146 : h136 99 = h 99 := Eq.trans e126 E19
                    have E147 : h136 100 = h 100 := Eq.trans e127 E20
                    have E148 : h136 103 = h 103 := Eq.trans e128 E21
                    have E149 : h136 104 = h 104 := Eq.trans e129 E22
                    have E150 : h136 105 = h 105 := Eq.trans e130 E23
                    have E151 : h136 106 = h 106 := Eq.trans e131 E24
                    have E152 : h136 109 = h 109 := Eq.trans e132 E25
                    have E153 : h136 114 = h 114 := Eq.trans e133 E26
                    show ov_R u d ov_m304 158 [(0, ov_r 90), (1, ov_i x), (2, ov_i y), (3, ov_i s), (4, ov_i m), (5, ov_l co), (7, ov_i ws), (8, ov_i 0), (9, ov_l (ov_lor co (ov_lshl 1 ((6 * y) + x)))), (11, ov_i 1), (12, ov_i (s + v105)), (13, ov_i (ov_or m v108))] [] z135 h136 (P_Mo_goesOn_90_t F z h x y s m co ws)
                    have f154 : (h136 90 2) = (h9 90 2) ∧ (h136 90 7) = (h9 90 7) ∧ (h136 90 8) = (h9 90 8) ∧ (h136 90 13) = (h9 90 13) ∧ (h136 90 20) = (h9 90 20) ∧ (h136 90 22) = (h9 90 22) ∧ (h136 90 25) = (h9 90 25) ∧ (h136 90 26) = (h9 90 26) ∧ (h136 90 28) = (h9 90 28) ∧ (h136 90 29) = (h9 90 29) ∧ (h136 90 30) = (h9 90 30) ∧ (h136 90 34) = (h9 90 34) ∧ (h9 90 43) ≤ (h136 90 43) ∧ (h136 90 43) ≤ (h9 90 43) + ft_p (Int.toNat (13 - ((x + 1) - 1) - (y + 1))) := f117
                    clear f117
                    rw [show h9 103 = h 103 from E21] at y134
                    rw [show h9 96 = h 96 from E16] at y134
                    have y134_ : ft_HM (h136 90) = ft_m (h 96) (h 103) (h 103 59) (Int.toNat (14 - ((x + 1) - 1) - (y + 1))) ((x + 1) - 1) (y + 1) ((s + v105) + (h 96 2)) (ov_or m v108) (ov_lor co (ov_lshl 1 ((6 * y) + x))) (ov_or ws (ov_shl 1 (x + y))) (ft_HM (h9 90)) := y134
                    have tz : ft_HM (h136 90) = (ft_mg (h 96) (h 103) (h 103 59) (ft_m (h 96) (h 103) (h 103 59) (Int.toNat (13 - x - y))) x y s m (ov_lor co (ov_lshl 1 (6 * y + x))) ws) 1 (ft_HM (h9 90)) := ft_mg_go (x2 := ((x + 1) - 1)) (y2 := (y + 1)) (out := s + v105) (t2 := ((s + v105) + (h 96 2))) (set := v108) (m2 := (ov_or m v108)) (w2 := (ov_or ws (ov_shl 1 (x + y)))) (by omega) (by omega) (by omega) (by omega) (by omega) (by omega) rfl rfl (Eq.trans y134_ (by rw [show Int.toNat (14 - ((x + 1) - 1) - (y + 1)) = Int.toNat (13 - x - y) by omega]))
                    refine ov_blk (ls2 := [(0, ov_r 90), (1, ov_i x), (2, ov_i y), (3, ov_i s), (4, ov_i m), (5, ov_l co), (7, ov_i ws), (8, ov_i 0), (9, ov_l (ov_lor co (ov_lshl 1 ((6 * y) + x)))), (11, ov_i (1 + 1)), (12, ov_i (s + v105)), (13, ov_i (ov_or m v108))]) (st2 := []) (pc2 := 161) b_304_158_1 rfl rfl ?_
                    refine ov_goto (tgt := 24) d_304_161 (by decide) ?_
                    refine ov_sub (ls2 := [(0, ov_r 90), (1, ov_i x), (2, ov_i y), (3, ov_i s), (4, ov_i m), (5, ov_l co), (7, ov_i ws), (8, ov_i 0), (9, ov_l (ov_lor co (ov_lshl 1 ((6 * y) + x)))), (11, ov_i (1 + 1))]) (List.Sublist.subset (by repeat (first | exact List.Sublist.refl _ | apply List.Sublist.cons_cons | apply List.Sublist.cons))) ?_
                    exact ih5 (1 + 1) _ _ I137 E138 E139 E140 E141 E142 E143 E144 E145 E146 E147 E148 E149 E150 E151 E152 E153 (ft_u_2 (Eq.trans tz (congrArg ((ft_mg (h 96) (h 103) (h 103 59) (ft_m (h 96) (h 103) (h 103 59) (Int.toNat (13 - x - y))) x y s m (ov_lor co (ov_lshl 1 (6 * y + x))) ws) 1) ya))) (by show 0 ≤ (1 + 1) ∧ (1 + 1) ≤ 2 ∧ ((1 + 1) = 0 ∧ (h136 90 43) = (h 90 43) ∨ (1 + 1) = 1 ∧ (h 90 43) ≤ (h136 90 43) ∧ (h136 90 43) ≤ (h 90 43) + ft_p (Int.toNat (13 - x - y - 1)) ∨ (1 + 1) = 2 ∧ (h 90 43) ≤ (h136 90 43) ∧ (h136 90 43) ≤ (h 90 43) + ft_p (Int.toNat (13 - x - y))) ∧ (h136 90 2) = (h 90 2) ∧ (h136 90 7) = (h 90 7) ∧ (h136 90 8) = (h 90 8) ∧ (h136 90 13) = (h 90 13) ∧ (h136 90 20) = (h 90 20) ∧ (h136 90 22) = (h 90 22) ∧ (h136 90 25) = (h 90 25) ∧ (h136 90 26) = (h 90 26) ∧ (h136 90 28) = (h 90 28) ∧ (h136 90 29) = (h 90 29) ∧ (h136 90 30) = (h 90 30) ∧ (h136 90 34) = (h 90 34); omega) (by omega)
                  · omega
                · omega
            · omega
        · skip
          refine ov_blk (ls2 := [(0, ov_r 90), (1, ov_i x), (2, ov_i y), (3, ov_i s), (4, ov_i m), (5, ov_l co), (7, ov_i ws), (8, ov_i 0), (9, ov_l (ov_lor co (ov_lshl 1 ((6 * y) + x)))), (11, ov_i x11)]) (st2 := [ov_i 0]) (pc2 := 32) b_304_30_1 rfl rfl ?_
          refine ov_ifeq (tgt := 164) d_304_32 (by decide) (by omega) (fun c155 => ?_) (fun c155 => ?_)
          · skip
            have gz : ft_HM (h9 90) = ft_m (h 96) (h 103) (h 103 59) (Int.toNat (14 - x - y)) x y s m co ws (ft_HM (h 90)) := ft_m_n (j := Int.toNat (13 - x - y)) (by omega) nh rfl (Eq.trans ya (congrArg (fun v => ft_u (ft_mg (h 96) (h 103) (h 103 59) (ft_m (h 96) (h 103) (h 103 59) (Int.toNat (13 - x - y))) x y s m (ov_lor co (ov_lshl 1 (6 * y + x))) ws) v (ft_HM (h 90))) (show x11 = 2 by omega)))
            exact ov_retv (st := []) d_304_164 rfl ⟨rfl, I10, (by show (h9 90 2) = (h 90 2) ∧ (h9 90 7) = (h 90 7) ∧ (h9 90 8) = (h 90 8) ∧ (h9 90 13) = (h 90 13) ∧ (h9 90 20) = (h 90 20) ∧ (h9 90 22) = (h 90 22) ∧ (h9 90 25) = (h 90 25) ∧ (h9 90 26) = (h 90 26) ∧ (h9 90 28) = (h 90 28) ∧ (h9 90 29) = (h 90 29) ∧ (h9 90 30) = (h 90 30) ∧ (h9 90 34) = (h 90 34) ∧ (h 90 43) ≤ (h9 90 43) ∧ (h9 90 43) ≤ (h 90 43) + ft_p (Int.toNat (13 - x - y)); omega), E11, E12, E13, E14, E15, E16, E17, E18, E19, E20, E21, E22, E23, E24, E25, E26, gz⟩
          · omega
    exact L7 4 0 _ _ I rfl rfl rfl rfl rfl rfl rfl rfl rfl rfl rfl rfl rfl rfl rfl rfl ft_u_0.symm (by show 0 ≤ 0 ∧ 0 ≤ 2 ∧ (0 = 0 ∧ (h 90 43) = (h 90 43) ∨ 0 = 1 ∧ (h 90 43) ≤ (h 90 43) ∧ (h 90 43) ≤ (h 90 43) + ft_p (Int.toNat (13 - x - y - 1)) ∨ 0 = 2 ∧ (h 90 43) ≤ (h 90 43) ∧ (h 90 43) ≤ (h 90 43) + ft_p (Int.toNat (13 - x - y))) ∧ (h 90 2) = (h 90 2) ∧ (h 90 7) = (h 90 7) ∧ (h 90 8) = (h 90 8) ∧ (h 90 13) = (h 90 13) ∧ (h 90 20) = (h 90 20) ∧ (h 90 22) = (h 90 22) ∧ (h 90 25) = (h 90 25) ∧ (h 90 26) = (h 90 26) ∧ (h 90 28) = (h 90 28) ∧ (h 90 29) = (h 90 29) ∧ (h 90 30) = (h 90 30) ∧ (h 90 34) = (h 90 34); omega) (by omega)
  · skip
    have nh : (x = h 96 0 - 1 ∧ y = h 96 1 - 1) := by omega
    refine ov_blk (ls2 := [(0, ov_r 90), (1, ov_i x), (2, ov_i y), (3, ov_i s), (4, ov_i m), (5, ov_l co), (7, ov_i ws), (8, ov_i 1), (9, ov_l (ov_lor co (ov_lshl 1 ((6 * y) + x)))), (11, ov_i 0)]) (st2 := []) (pc2 := 24) b_304_21_2 rfl rfl ?_
    have L159 : ∀ (n156 : Nat) (x11_ : Int) (z160 : ov_Z) (h161 : ov_H) (I162 : ov_N F z160 h161) (E163 : h161 91 = h 91) (E164 : h161 92 = h 92) (E165 : h161 93 = h 93) (E166 : h161 94 = h 94) (E167 : h161 95 = h 95) (E168 : h161 96 = h 96) (E169 : h161 97 = h 97) (E170 : h161 98 = h 98) (E171 : h161 99 = h 99) (E172 : h161 100 = h 100) (E173 : h161 103 = h 103) (E174 : h161 104 = h 104) (E175 : h161 105 = h 105) (E176 : h161 106 = h 106) (E177 : h161 109 = h 109) (E178 : h161 114 = h 114) (ya : (x11_ ≤ 2 ∧ ft_HM (h161 90) = ft_HM (h 90)) ∨ (x11_ = 3 ∧ ft_HM (h161 90) = (ft_fm (h 103 59) (ov_or m (ft_b (h 103) x y s 2000000000 (Int.toNat (h 103 59)))) (ov_lor co (ov_lshl 1 (6 * y + x))) ws (ft_HM (h 90))))) (q158 : 0 ≤ x11_ ∧ x11_ ≤ 3 ∧ (x11_ ≤ 2 ∧ (h161 90 43) = (h 90 43) ∨ x11_ = 3 ∧ (h 90 43) ≤ (h161 90 43) ∧ (h161 90 43) ≤ (h 90 43) + 1) ∧ (h161 90 2) = (h 90 2) ∧ (h161 90 7) = (h 90 7) ∧ (h161 90 8) = (h 90 8) ∧ (h161 90 13) = (h 90 13) ∧ (h161 90 20) = (h 90 20) ∧ (h161 90 22) = (h 90 22) ∧ (h161 90 25) = (h 90 25) ∧ (h161 90 26) = (h 90 26) ∧ (h161 90 28) = (h 90 28) ∧ (h161 90 29) = (h 90 29) ∧ (h161 90 30) = (h 90 30) ∧ (h161 90 34) = (h 90 34)), 3 - x11_ < (n156 : Int) → ov_R u d ov_m304 24 [(0, ov_r 90), (1, ov_i x), (2, ov_i y), (3, ov_i s), (4, ov_i m), (5, ov_l co), (7, ov_i ws), (8, ov_i 1), (9, ov_l (ov_lor co (ov_lshl 1 ((6 * y) + x)))), (11, ov_i x11_)] [] z160 h161 (P_Mo_goesOn_90_t F z h x y s m co ws) := by
      intro n156
      induction n156 with
      | zero =>
        intro x11_ z160 h161 I162 E163 E164 E165 E166 E167 E168 E169 E170 E171 E172 E173 E174 E175 E176 E177 E178 ya q158 hn179
        exact absurd hn179 (by omega)
      | succ n156 ih157 =>
        intro x11_ z160 h161 I162 E163 E164 E165 E166 E167 E168 E169 E170 E171 E172 E173 E174 E175 E176 E177 E178 ya q158 hn179
        refine ov_blk (ls2 := [(0, ov_r 90), (1, ov_i x), (2, ov_i y), (3, ov_i s), (4, ov_i m), (5, ov_l co), (7, ov_i ws), (8, ov_i 1), (9, ov_l (ov_lor co (ov_lshl 1 ((6 * y) + x)))), (11, ov_i x11_)]) (st2 := [ov_i 2, ov_i x11_]) (pc2 := 27) b_304_24_2 rfl rfl ?_
        refine ov_iclt (tgt := 41) d_304_27 (by decide) (by omega) (by omega) (fun c180 => ?_) (fun c180 => ?_)
        · skip
          refine ov_blk (ls2 := [(0, ov_r 90), (1, ov_i x), (2, ov_i y), (3, ov_i s), (4, ov_i m), (5, ov_l co), (7, ov_i ws), (8, ov_i 1), (9, ov_l (ov_lor co (ov_lshl 1 ((6 * y) + x)))), (11, ov_i x11_)]) (st2 := [ov_i 1]) (pc2 := 43) b_304_41_1 rfl rfl ?_
          refine ov_ifeq (tgt := 55) d_304_43 (by decide) (by omega) (fun c181 => ?_) (fun c181 => ?_)
          · omega
          · skip
            refine ov_blk (ls2 := [(0, ov_r 90), (1, ov_i x), (2, ov_i y), (3, ov_i s), (4, ov_i m), (5, ov_l co), (7, ov_i ws), (8, ov_i 1), (9, ov_l (ov_lor co (ov_lshl 1 ((6 * y) + x)))), (11, ov_i x11_)]) (st2 := [ov_i 2, ov_i x11_]) (pc2 := 49) b_304_46_2 rfl rfl ?_
            refine ov_icne (tgt := 158) d_304_49 (by decide) (by omega) (by omega) (fun c182 => ?_) (fun c182 => ?_)
            · skip
              refine ov_blk (ls2 := [(0, ov_r 90), (1, ov_i x), (2, ov_i y), (3, ov_i s), (4, ov_i m), (5, ov_l co), (7, ov_i ws), (8, ov_i 1), (9, ov_l (ov_lor co (ov_lshl 1 ((6 * y) + x)))), (11, ov_i (x11_ + 1))]) (st2 := []) (pc2 := 161) b_304_158_1 rfl rfl ?_
              refine ov_goto (tgt := 24) d_304_161 (by decide) ?_
              have yb : ((x11_ + 1) ≤ 2 ∧ ft_HM (h161 90) = ft_HM (h 90)) ∨ ((x11_ + 1) = 3 ∧ ft_HM (h161 90) = (ft_fm (h 103 59) (ov_or m (ft_b (h 103) x y s 2000000000 (Int.toNat (h 103 59)))) (ov_lor co (ov_lshl 1 (6 * y + x))) ws (ft_HM (h 90)))) := by
                rcases ya with ⟨q9, ya2⟩ | ⟨q9, ya2⟩
                · exact Or.inl ⟨by omega, ya2⟩
                · omega
              exact ih157 (x11_ + 1) _ _ I162 E163 E164 E165 E166 E167 E168 E169 E170 E171 E172 E173 E174 E175 E176 E177 E178 yb (by show 0 ≤ (x11_ + 1) ∧ (x11_ + 1) ≤ 3 ∧ ((x11_ + 1) ≤ 2 ∧ (h161 90 43) = (h 90 43) ∨ (x11_ + 1) = 3 ∧ (h 90 43) ≤ (h161 90 43) ∧ (h161 90 43) ≤ (h 90 43) + 1) ∧ (h161 90 2) = (h 90 2) ∧ (h161 90 7) = (h 90 7) ∧ (h161 90 8) = (h 90 8) ∧ (h161 90 13) = (h 90 13) ∧ (h161 90 20) = (h 90 20) ∧ (h161 90 22) = (h 90 22) ∧ (h161 90 25) = (h 90 25) ∧ (h161 90 26) = (h 90 26) ∧ (h161 90 28) = (h 90 28) ∧ (h161 90 29) = (h 90 29) ∧ (h161 90 30) = (h 90 30) ∧ (h161 90 34) = (h 90 34); omega) (by omega)
            · omega
        · skip
          refine ov_blk (ls2 := [(0, ov_r 90), (1, ov_i x), (2, ov_i y), (3, ov_i s), (4, ov_i m), (5, ov_l co), (7, ov_i ws), (8, ov_i 1), (9, ov_l (ov_lor co (ov_lshl 1 ((6 * y) + x)))), (11, ov_i x11_)]) (st2 := [ov_i 1]) (pc2 := 32) b_304_30_1 rfl rfl ?_
          refine ov_ifeq (tgt := 164) d_304_32 (by decide) (by omega) (fun c183 => ?_) (fun c183 => ?_)
          · omega
          · skip
            refine ov_blk (ls2 := [(0, ov_r 90), (1, ov_i x), (2, ov_i y), (3, ov_i s), (4, ov_i m), (5, ov_l co), (7, ov_i ws), (8, ov_i 1), (9, ov_l (ov_lor co (ov_lshl 1 ((6 * y) + x)))), (11, ov_i x11_)]) (st2 := [ov_i 3, ov_i x11_]) (pc2 := 38) b_304_35_2 rfl rfl ?_
            refine ov_icge (tgt := 164) d_304_38 (by decide) (by omega) (by omega) (fun c184 => ?_) (fun c184 => ?_)
            · skip
              have gz : ft_HM (h161 90) = ft_m (h 96) (h 103) (h 103 59) (Int.toNat (14 - x - y)) x y s m co ws (ft_HM (h 90)) := by
                rcases ya with ⟨q9, ya2⟩ | ⟨q9, ya2⟩
                · omega
                · exact ft_m_h (by omega) nh rfl ya2
              exact ov_retv (st := []) d_304_164 rfl ⟨rfl, I162, (by show (h161 90 2) = (h 90 2) ∧ (h161 90 7) = (h 90 7) ∧ (h161 90 8) = (h 90 8) ∧ (h161 90 13) = (h 90 13) ∧ (h161 90 20) = (h 90 20) ∧ (h161 90 22) = (h 90 22) ∧ (h161 90 25) = (h 90 25) ∧ (h161 90 26) = (h 90 26) ∧ (h161 90 28) = (h 90 28) ∧ (h161 90 29) = (h 90 29) ∧ (h161 90 30) = (h 90 30) ∧ (h161 90 34) = (h 90 34) ∧ (h 90 43) ≤ (h161 90 43) ∧ (h161 90 43) ≤ (h 90 43) + ft_p (Int.toNat (13 - x - y)); omega), E163, E164, E165, E166, E167, E168, E169, E170, E171, E172, E173, E174, E175, E176, E177, E178, gz⟩
            · skip
              refine ov_blk (ls2 := [(0, ov_r 90), (1, ov_i x), (2, ov_i y), (3, ov_i s), (4, ov_i m), (5, ov_l co), (7, ov_i ws), (8, ov_i 1), (9, ov_l (ov_lor co (ov_lshl 1 ((6 * y) + x)))), (11, ov_i x11_)]) (st2 := [ov_i 1]) (pc2 := 43) b_304_41_1 rfl rfl ?_
              refine ov_ifeq (tgt := 55) d_304_43 (by decide) (by omega) (fun c185 => ?_) (fun c185 => ?_)
              · omega
              · skip
                refine ov_blk (ls2 := [(0, ov_r 90), (1, ov_i x), (2, ov_i y), (3, ov_i s), (4, ov_i m), (5, ov_l co), (7, ov_i ws), (8, ov_i 1), (9, ov_l (ov_lor co (ov_lshl 1 ((6 * y) + x)))), (11, ov_i x11_)]) (st2 := [ov_i 2, ov_i x11_]) (pc2 := 49) b_304_46_2 rfl rfl ?_
                refine ov_icne (tgt := 158) d_304_49 (by decide) (by omega) (by omega) (fun c186 => ?_) (fun c186 => ?_)
                · omega
                · skip
                  refine ov_goto (tgt := 66) d_304_52 (by decide) ?_
                  refine ov_blk (ls2 := [(0, ov_r 90), (1, ov_i x), (2, ov_i y), (3, ov_i s), (4, ov_i m), (5, ov_l co), (7, ov_i ws), (8, ov_i 1), (9, ov_l (ov_lor co (ov_lshl 1 ((6 * y) + x)))), (11, ov_i x11_)]) (st2 := [ov_i 1]) (pc2 := 68) b_304_66_1 rfl rfl ?_
                  refine ov_ifeq (tgt := 77) d_304_68 (by decide) (by omega) (fun c187 => ?_) (fun c187 => ?_)
                  · omega
                  · skip
                    refine ov_ldcw (n := 2000000000) d_304_71 kc_Mo_338 ?_
                    refine ov_goto (tgt := 88) d_304_74 (by decide) ?_
                    refine ov_blk (ls2 := [(0, ov_r 90), (1, ov_i x), (2, ov_i y), (3, ov_i s), (4, ov_i m), (5, ov_l co), (7, ov_i ws), (8, ov_i 1), (9, ov_l (ov_lor co (ov_lshl 1 ((6 * y) + x)))), (11, ov_i x11_), (12, ov_i 2000000000)]) (st2 := [ov_i 2000000000, ov_i s, ov_i y, ov_i x, ov_r 90, ov_i m]) (pc2 := 98) b_304_88_7 rfl rfl ?_
                    refine ov_cV (as := [ov_i x, ov_i y, ov_i s, ov_i 2000000000]) (st := [ov_i m]) (d2 := d - 1) d_304_98 lk_Mo_450 rfl (Nat.le_of_ble_eq_true rfl) (c := 1) (zb_90 I162) (zs_90 I162) ⟨by decide, rfl⟩ (by omega) (c_Mo_wasBetween_90_t (d - 1) (by omega) U I162 x y s 2000000000 (by omega) (by omega) (by omega) (by omega)) ?_
                    rintro _ _ _ ⟨v189, rfl, rfl, rfl, f188⟩
                    show ov_R u d ov_m304 101 [(0, ov_r 90), (1, ov_i x), (2, ov_i y), (3, ov_i s), (4, ov_i m), (5, ov_l co), (7, ov_i ws), (8, ov_i 1), (9, ov_l (ov_lor co (ov_lshl 1 ((6 * y) + x)))), (11, ov_i x11_), (12, ov_i 2000000000)] [ov_i v189, ov_i m] z160 h161 (P_Mo_goesOn_90_t F z h x y s m co ws)
                    rw [show h161 103 = h 103 from E173] at f188
                    have f190 : -2147483648 ≤ v189 ∧ v189 ≤ 2147483647 ∧ v189 = ft_b (h 103) x y s (2000000000 : Int) (Int.toNat (h 103 59)) := f188
                    clear f188
                    have hset : ft_b (h 103) x y s 2000000000 (Int.toNat (h 103 59)) = v189 := by omega
                    refine ov_blk (ls2 := [(0, ov_r 90), (1, ov_i x), (2, ov_i y), (3, ov_i s), (4, ov_i m), (5, ov_l co), (7, ov_i ws), (8, ov_i 1), (9, ov_l (ov_lor co (ov_lshl 1 ((6 * y) + x)))), (11, ov_i x11_), (12, ov_i 2000000000), (13, ov_i (ov_or m v189))]) (st2 := [ov_i 1]) (pc2 := 106) b_304_101_3 rfl rfl ?_
                    have g191 := ov_org m v189
                    refine ov_ifeq (tgt := 122) d_304_106 (by decide) (by omega) (fun c192 => ?_) (fun c192 => ?_)
                    · omega
                    · skip
                      refine ov_blk (ls2 := [(0, ov_r 90), (1, ov_i x), (2, ov_i y), (3, ov_i s), (4, ov_i m), (5, ov_l co), (7, ov_i ws), (8, ov_i 1), (9, ov_l (ov_lor co (ov_lshl 1 ((6 * y) + x)))), (11, ov_i x11_), (12, ov_i 2000000000), (13, ov_i (ov_or m v189))]) (st2 := [ov_i ws, ov_l (ov_lor co (ov_lshl 1 ((6 * y) + x))), ov_i (ov_or m v189), ov_r 90]) (pc2 := 116) b_304_109_4 rfl rfl ?_
                      refine ov_cV (as := [ov_i (ov_or m v189), ov_l (ov_lor co (ov_lshl 1 ((6 * y) + x))), ov_i ws]) (st := []) (d2 := d - 1) d_304_116 lk_Mo_453 rfl (Nat.le_of_ble_eq_true rfl) (c := 1) (zb_90 I162) (zs_90 I162) ⟨by decide, rfl⟩ (by omega) (c_Mo_fits0_90_t (d - 1) (by omega) U I162 (ov_or m v189) (ov_lor co (ov_lshl 1 ((6 * y) + x))) ws (by omega) (by omega) (by show 0 ≤ (h161 90 43) ∧ (h161 90 43) ≤ 100000; omega)) ?_
                      rintro _ z211 h212 ⟨rfl, I213, f193, e194, e195, e196, e197, e198, e199, e200, e201, e202, e203, e204, e205, e206, e207, e208, e209, y210⟩
                      have E214 : h212 91 = h 91 := Eq.trans e194 E163
                      have E215 : h212 92 = h 92 := Eq.trans e195 E164
                      have E216 : h212 93 = h 93 := Eq.trans e196 E165
                      have E217 : h212 94 = h 94 := Eq.trans e197 E166
                      have E218 : h212 95 = h 95 := Eq.trans e198 E167
                      have E219 : h212 96 = h 96 := Eq.trans e199 E168
                      have E220 : h212 97 = h 97 := Eq.trans e200 E169
                      have E221 : h212 98 = h 98 := Eq.trans e201 E170
                      have E222 : h212 99 = h 99 := Eq.trans e202 E171
                      have E223 : h212 100 = h 100 := Eq.trans e203 E172
                      have E224 : h212 103 = h 103 := Eq.trans e204 E173
                      have E225 : h212 104 = h 104 := Eq.trans e205 E174
                      have E226 : h212 105 = h 105 := Eq.trans e206 E175
                      have E227 : h212 106 = h 106 := Eq.trans e207 E176
                      have E228 : h212 109 = h 109 := Eq.trans e208 E177
                      have E229 : h212 114 = h 114 := Eq.trans e209 E178
                      show ov_R u d ov_m304 119 [(0, ov_r 90), (1, ov_i x), (2, ov_i y), (3, ov_i s), (4, ov_i m), (5, ov_l co), (7, ov_i ws), (8, ov_i 1), (9, ov_l (ov_lor co (ov_lshl 1 ((6 * y) + x)))), (11, ov_i x11_), (12, ov_i 2000000000), (13, ov_i (ov_or m v189))] [] z211 h212 (P_Mo_goesOn_90_t F z h x y s m co ws)
                      have f230 : (h212 90 2) = (h161 90 2) ∧ (h212 90 7) = (h161 90 7) ∧ (h212 90 8) = (h161 90 8) ∧ (h212 90 13) = (h161 90 13) ∧ (h212 90 20) = (h161 90 20) ∧ (h212 90 22) = (h161 90 22) ∧ (h212 90 25) = (h161 90 25) ∧ (h212 90 26) = (h161 90 26) ∧ (h212 90 28) = (h161 90 28) ∧ (h212 90 29) = (h161 90 29) ∧ (h212 90 30) = (h161 90 30) ∧ (h212 90 34) = (h161 90 34) ∧ (h161 90 43) ≤ (h212 90 43) ∧ (h212 90 43) ≤ (h161 90 43) + 1 := f193
                      clear f193
                      rw [show h161 103 = h 103 from E173] at y210
                      have y210_ : ft_HM (h212 90) = ft_fm (h 103 59) (ov_or m v189) (ov_lor co (ov_lshl 1 ((6 * y) + x))) ws (ft_HM (h161 90)) := y210
                      have fz := y210_
                      refine ov_goto (tgt := 158) d_304_119 (by decide) ?_
                      refine ov_blk (ls2 := [(0, ov_r 90), (1, ov_i x), (2, ov_i y), (3, ov_i s), (4, ov_i m), (5, ov_l co), (7, ov_i ws), (8, ov_i 1), (9, ov_l (ov_lor co (ov_lshl 1 ((6 * y) + x)))), (11, ov_i (x11_ + 1)), (12, ov_i 2000000000), (13, ov_i (ov_or m v189))]) (st2 := []) (pc2 := 161) b_304_158_1 rfl rfl ?_
                      refine ov_goto (tgt := 24) d_304_161 (by decide) ?_
                      refine ov_sub (ls2 := [(0, ov_r 90), (1, ov_i x), (2, ov_i y), (3, ov_i s), (4, ov_i m), (5, ov_l co), (7, ov_i ws), (8, ov_i 1), (9, ov_l (ov_lor co (ov_lshl 1 ((6 * y) + x)))), (11, ov_i (x11_ + 1))]) (List.Sublist.subset (by repeat (first | exact List.Sublist.refl _ | apply List.Sublist.cons_cons | apply List.Sublist.cons))) ?_
                      have yb : ((x11_ + 1) ≤ 2 ∧ ft_HM (h212 90) = ft_HM (h 90)) ∨ ((x11_ + 1) = 3 ∧ ft_HM (h212 90) = (ft_fm (h 103 59) (ov_or m (ft_b (h 103) x y s 2000000000 (Int.toNat (h 103 59)))) (ov_lor co (ov_lshl 1 (6 * y + x))) ws (ft_HM (h 90)))) := by
                        rcases ya with ⟨q9, ya2⟩ | ⟨q9, ya2⟩
                        · exact Or.inr ⟨by omega, by rw [← ya2, show ov_or m (ft_b (h 103) x y s 2000000000 (Int.toNat (h 103 59))) = ov_or m v189 by rw [hset]]; exact fz⟩
                        · omega
                      exact ih157 (x11_ + 1) _ _ I213 E214 E215 E216 E217 E218 E219 E220 E221 E222 E223 E224 E225 E226 E227 E228 E229 yb (by show 0 ≤ (x11_ + 1) ∧ (x11_ + 1) ≤ 3 ∧ ((x11_ + 1) ≤ 2 ∧ (h212 90 43) = (h 90 43) ∨ (x11_ + 1) = 3 ∧ (h 90 43) ≤ (h212 90 43) ∧ (h212 90 43) ≤ (h 90 43) + 1) ∧ (h212 90 2) = (h 90 2) ∧ (h212 90 7) = (h 90 7) ∧ (h212 90 8) = (h 90 8) ∧ (h212 90 13) = (h 90 13) ∧ (h212 90 20) = (h 90 20) ∧ (h212 90 22) = (h 90 22) ∧ (h212 90 25) = (h 90 25) ∧ (h212 90 26) = (h 90 26) ∧ (h212 90 28) = (h 90 28) ∧ (h212 90 29) = (h 90 29) ∧ (h212 90 30) = (h 90 30) ∧ (h212 90 34) = (h 90 34); omega) (by omega)
    exact L159 4 0 _ _ I rfl rfl rfl rfl rfl rfl rfl rfl rfl rfl rfl rfl rfl rfl rfl rfl (Or.inl ⟨by decide, rfl⟩) (by show 0 ≤ 0 ∧ 0 ≤ 3 ∧ (0 ≤ 2 ∧ (h 90 43) = (h 90 43) ∨ 0 = 3 ∧ (h 90 43) ≤ (h 90 43) ∧ (h 90 43) ≤ (h 90 43) + 1) ∧ (h 90 2) = (h 90 2) ∧ (h 90 7) = (h 90 7) ∧ (h 90 8) = (h 90 8) ∧ (h 90 13) = (h 90 13) ∧ (h 90 20) = (h 90 20) ∧ (h 90 22) = (h 90 22) ∧ (h 90 25) = (h 90 25) ∧ (h 90 26) = (h 90 26) ∧ (h 90 28) = (h 90 28) ∧ (h 90 29) = (h 90 29) ∧ (h 90 30) = (h 90 30) ∧ (h 90 34) = (h 90 34); omega) (by omega)
theorem c_Mo_goesOn_90_t_all {u : ov_U} {F : ov_H × ov_Z} (k : Nat) : ∀ {z : ov_Z} {h : ov_H} (d : Nat) (hd : (10 + 2 * k + 1) ≤ d) (U : ov_cap u) (I : ov_N F z h) (x : Int) (y : Int) (s : Int) (m : Int) (co : Int) (ws : Int) (g_x : ov_g x) (g_y : ov_g y) (g_s : ov_g s) (g_m : ov_g m) (g_ws : ov_g ws) (p0 : 0 ≤ x ∧ x ≤ 5 ∧ 0 ≤ y ∧ y ≤ 8) (p1 : x < (h 96 0) ∧ y < (h 96 1)) (p2 : x + y + (k : Int) = 13) (p3 : 0 ≤ s ∧ s + 89 * (k : Int) ≤ 3000000) (p4 : 0 ≤ (h 90 43) ∧ (h 90 43) + ft_p (Int.toNat (13 - x - y)) ≤ 20000) (W : ov_WT (h 96)), ov_T u d ov_m304 [ov_r 90, ov_i x, ov_i y, ov_i s, ov_i m, ov_l co, ov_i ws] z h (P_Mo_goesOn_90_t F z h x y s m co ws) := by
  induction k using Nat.strongRecOn with
  | ind k ih => exact fun {z} {h} => @c_Mo_goesOn_90_t u F k (fun k' hk => @ih k' hk) z h
abbrev P_Mo_fits_90_t (F : ov_H × ov_Z) (z : ov_Z) (h : ov_H) (m : Int) : Option ov_V → ov_Z → ov_H → Prop := fun r0 z' h' => ∃ r : Int, r0 = some (ov_l r) ∧ ov_N F z' h' ∧ ((h' 90 2) = (h 90 2) ∧ (h' 90 7) = (h 90 7) ∧ (h' 90 8) = (h 90 8) ∧ (h' 90 13) = (h 90 13) ∧ (h' 90 20) = (h 90 20) ∧ (h' 90 22) = (h 90 22) ∧ (h' 90 25) = (h 90 25) ∧ (h' 90 26) = (h 90 26) ∧ (h' 90 28) = (h 90 28) ∧ (h' 90 29) = (h 90 29) ∧ (h' 90 30) = (h 90 30) ∧ (h' 90 34) = (h 90 34) ∧ r = ft_ff (h 96) (h 103) (h 103 59) (h 90 44) (h 90 45) m) ∧ h' 91 = h 91 ∧ h' 92 = h 92 ∧ h' 93 = h 93 ∧ h' 94 = h 94 ∧ h' 95 = h 95 ∧ h' 96 = h 96 ∧ h' 97 = h 97 ∧ h' 98 = h 98 ∧ h' 99 = h 99 ∧ h' 100 = h 100 ∧ h' 103 = h 103 ∧ h' 104 = h 104 ∧ h' 105 = h 105 ∧ h' 106 = h 106 ∧ h' 109 = h 109 ∧ h' 114 = h 114
set_option maxHeartbeats 4000000 in
theorem c_Mo_fits_90_t {u : ov_U} {F : ov_H × ov_Z} {z : ov_Z} {h : ov_H} (d : Nat) (hd : 60 ≤ d) (U : ov_cap u) (I : ov_N F z h) (m : Int) (g_m : ov_g m) (W : ov_WT (h 96)) : ov_T u d ov_m303 [ov_r 90, ov_i m] z h (P_Mo_fits_90_t F z h m) := by
  refine ov_en rfl (Nat.le_of_ble_eq_true rfl) ?_
  show ov_R u d ov_m303 0 [(0, ov_r 90), (1, ov_i m)] [] z h (P_Mo_fits_90_t F z h m)
  have t0 := t96_0 I
  have t1 := t96_1 I
  have fp13 := ft_p_13m
  refine ov_blk (ls2 := [(0, ov_r 90), (1, ov_i m)]) (st2 := [ov_i 0, ov_r 90]) (pc2 := 2) b_303_0_2 rfl rfl ?_
  refine ov_putf (x := 0) d_303_2 fl_Mo_1 (zb_90 I) (zs_90 I) rfl nk_0 rfl ?_
  have I1 := up_90_0 (x := 0) I (by omega)
  refine ov_blk (ls2 := [(0, ov_r 90), (1, ov_i m)]) (st2 := [ov_i 3, ov_i 0, ov_i m]) (pc2 := 8) b_303_5_3 rfl rfl ?_
  refine ov_cS (as := [ov_i m, ov_i 0, ov_i 3]) (st := []) (d2 := d - 1) d_303_8 lk_Mo_299 rfl (Nat.le_of_ble_eq_true rfl) (by omega) (c_Mo_within (d - 1) (by omega) U I1 m 0 3 (by omega) (by omega) (by omega)) ?_
  rintro _ _ _ ⟨v3, rfl, rfl, rfl, f2⟩
  show ov_R u d ov_m303 11 [(0, ov_r 90), (1, ov_i m)] [ov_i v3] z (ov_up h 90 0 0) (P_Mo_fits_90_t F z h m)
  have f4 : (v3 = 0 ∨ v3 = 1) ∧ (v3 = 1 → (0 : Int) ≤ m ∧ m ≤ (3 : Int)) ∧ (v3 = 0 → m < (0 : Int) ∨ (3 : Int) < m) := f2
  clear f2
  refine ov_ifne (tgt := 18) d_303_11 (by decide) (by omega) (fun c5 => ?_) (fun c5 => ?_)
  · skip
    have f4_ : v3 = 1 := by omega
    have f6 : (0 : Int) ≤ m ∧ m ≤ (3 : Int) := f4.2.1 (by omega)
    clear f4
    refine ov_blk (ls2 := [(0, ov_r 90), (1, ov_i m)]) (st2 := [ov_l 0, ov_r 90]) (pc2 := 20) b_303_18_2 rfl rfl ?_
    refine ov_putf (x := 0) d_303_20 fl_Mo_461 (zb_90 I1) (zs_90 I1) rfl nk_1 rfl ?_
    have I7 := up_90_43 (x := 0) I1
    refine ov_blk (ls2 := [(0, ov_r 90), (1, ov_i m)]) (st2 := [ov_i 0, ov_l 0, ov_i 0, ov_i 0, ov_i 0, ov_i 0, ov_r 90]) (pc2 := 30) b_303_23_7 rfl rfl ?_
    refine ov_cV (as := [ov_i 0, ov_i 0, ov_i 0, ov_i 0, ov_l 0, ov_i 0]) (st := []) (d2 := d - 1) d_303_30 lk_Mo_457 rfl (Nat.le_of_ble_eq_true rfl) (c := 1) (zb_90 I7) (zs_90 I7) ⟨by decide, rfl⟩ (by omega) (c_Mo_goesOn_90_t_all (Int.toNat (13 - (0) - (0))) (d - 1) (by omega) U I7 0 0 0 0 0 0 (by omega) (by omega) (by omega) (by omega) (by omega) (by omega) (by show (0 : Int) < (h 96 0) ∧ (0 : Int) < (h 96 1); omega) (by omega) (by omega) (by show 0 ≤ 0 ∧ 0 + ft_p (Int.toNat (13 - (0 : Int) - (0 : Int))) ≤ 20000; omega) W) ?_
    rintro _ z26 h27 ⟨rfl, I28, f8, e9, e10, e11, e12, e13, e14, e15, e16, e17, e18, e19, e20, e21, e22, e23, e24, y25⟩
    have E29 : h27 91 = h 91 := e9
    have E30 : h27 92 = h 92 := e10
    have E31 : h27 93 = h 93 := e11
    have E32 : h27 94 = h 94 := e12
    have E33 : h27 95 = h 95 := e13
    have E34 : h27 96 = h 96 := e14
    have E35 : h27 97 = h 97 := e15
    have E36 : h27 98 = h 98 := e16
    have E37 : h27 99 = h 99 := e17
    have E38 : h27 100 = h 100 := e18
    have E39 : h27 103 = h 103 := e19
    have E40 : h27 104 = h 104 := e20
    have E41 : h27 105 = h 105 := e21
    have E42 : h27 106 = h 106 := e22
    have E43 : h27 109 = h 109 := e23
    have E44 : h27 114 = h 114 := e24
    show ov_R u d ov_m303 33 [(0, ov_r 90), (1, ov_i m)] [] z26 h27 (P_Mo_fits_90_t F z h m)
    have f45 : (h27 90 2) = (h 90 2) ∧ (h27 90 7) = (h 90 7) ∧ (h27 90 8) = (h 90 8) ∧ (h27 90 13) = (h 90 13) ∧ (h27 90 20) = (h 90 20) ∧ (h27 90 22) = (h 90 22) ∧ (h27 90 25) = (h 90 25) ∧ (h27 90 26) = (h 90 26) ∧ (h27 90 28) = (h 90 28) ∧ (h27 90 29) = (h 90 29) ∧ (h27 90 30) = (h 90 30) ∧ (h27 90 34) = (h 90 34) ∧ 0 ≤ (h27 90 43) ∧ (h27 90 43) ≤ 0 + ft_p (Int.toNat (13 - (0 : Int) - (0 : Int))) := f8
    clear f8
    have y25_ : ft_HM (h27 90) = ft_m (h 96) (h 103) (h 103 59) (Int.toNat (14 - (0 : Int) - (0 : Int))) (0 : Int) (0 : Int) (0 : Int) (0 : Int) (0 : Int) (0 : Int) (ft_HM ((ov_up (ov_up h 90 0 0) 90 43 0) 90)) := y25
    have TM : ft_HM (h27 90) = ft_m (h 96) (h 103) (h 103 59) 14 0 0 0 0 0 0 (0, h 90 44, h 90 45) := y25_
    have z0 : ft_cm (h27 90 45) m (Int.toNat 0) = 0 := rfl
    refine ov_blk (ls2 := [(0, ov_r 90), (1, ov_i m)]) (st2 := [ov_i m]) (pc2 := 34) b_303_33_1 rfl rfl ?_
    refine ov_ifeq (tgt := 46) d_303_34 (by decide) (by omega) (fun c46 => ?_) (fun c46 => ?_)
    · skip
      refine ov_blk (ls2 := [(0, ov_r 90), (1, ov_i m)]) (st2 := [ov_i m]) (pc2 := 47) b_303_46_1 rfl rfl ?_
      refine ov_ifne (tgt := 57) d_303_47 (by decide) (by omega) (fun c47 => ?_) (fun c47 => ?_)
      · omega
      · skip
        refine ov_blk (ls2 := [(0, ov_r 90), (1, ov_i m)]) (st2 := [ov_r 90]) (pc2 := 51) b_303_50_1 rfl rfl ?_
        refine ov_getf (v := ov_l (h27 90 43)) d_303_51 fl_Mo_461 (zb_90 I28) (zs_90 I28) rfl ?_
        refine ov_goto (tgt := 60) d_303_54 (by decide) ?_
        have gz : ft_ff (h 96) (h 103) (h 103 59) (h 90 44) (h 90 45) m = (h27 90 43) := by
          unfold ft_ff
          rw [← TM]
          unfold ft_am
          show (if 0 ≤ m ∧ m ≤ 3 then (if m = 0 then (h27 90 43) else if (h27 90 43) = 0 then -1 else if m = 1 then (h27 90 44) else ft_cm (h27 90 45) m 54) else -1) = (h27 90 43)
          (repeat' split) <;> omega
        exact ov_retl (st := []) d_303_60 rfl ⟨_, rfl, I28, (by show (h27 90 2) = (h 90 2) ∧ (h27 90 7) = (h 90 7) ∧ (h27 90 8) = (h 90 8) ∧ (h27 90 13) = (h 90 13) ∧ (h27 90 20) = (h 90 20) ∧ (h27 90 22) = (h 90 22) ∧ (h27 90 25) = (h 90 25) ∧ (h27 90 26) = (h 90 26) ∧ (h27 90 28) = (h 90 28) ∧ (h27 90 29) = (h 90 29) ∧ (h27 90 30) = (h 90 30) ∧ (h27 90 34) = (h 90 34) ∧ (h27 90 43) = ft_ff (h 96) (h 103) (h 103 59) (h 90 44) (h 90 45) m; omega), E29, E30, E31, E32, E33, E34, E35, E36, E37, E38, E39, E40, E41, E42, E43, E44⟩
    · skip
      refine ov_blk (ls2 := [(0, ov_r 90), (1, ov_i m)]) (st2 := [ov_r 90]) (pc2 := 38) b_303_37_1 rfl rfl ?_
      refine ov_getf (v := ov_l (h27 90 43)) d_303_38 fl_Mo_461 (zb_90 I28) (zs_90 I28) rfl ?_
      refine ov_blk (ls2 := [(0, ov_r 90), (1, ov_i m)]) (st2 := [ov_i (ov_lcmp (h27 90 43) 0)]) (pc2 := 43) b_303_41_2 rfl rfl ?_
      have g48 := ov_lcg (h27 90 43) 0
      have g49 := ov_lcs (a := (h27 90 43)) (b := 0) (by omega) (by omega)
      refine ov_ifne (tgt := 61) d_303_43 (by decide) (by omega) (fun c50 => ?_) (fun c50 => ?_)
      · skip
        refine ov_blk (ls2 := [(0, ov_r 90), (1, ov_i m)]) (st2 := [ov_i 1, ov_i m]) (pc2 := 63) b_303_61_2 rfl rfl ?_
        refine ov_icne (tgt := 72) d_303_63 (by decide) (by omega) (by omega) (fun c51 => ?_) (fun c51 => ?_)
        · skip
          refine ov_blk (ls2 := [(0, ov_r 90), (1, ov_i m), (2, ov_l 0), (4, ov_i 0)]) (st2 := []) (pc2 := 77) b_303_72_4 rfl rfl ?_
          have L55 : ∀ (n52 : Nat) (x2 : Int) (x4 : Int) (q54 : 0 ≤ x4 ∧ x4 ≤ 54 ∧ x2 = ft_cm (h27 90 45) m (Int.toNat x4)), 54 - x4 < (n52 : Int) → ov_R u d ov_m303 77 [(0, ov_r 90), (1, ov_i m), (2, ov_l x2), (4, ov_i x4)] [] z26 h27 (P_Mo_fits_90_t F z h m) := by
            intro n52
            induction n52 with
            | zero =>
              intro x2 x4 q54 hn56
              exact absurd hn56 (by omega)
            | succ n52 ih53 =>
              intro x2 x4 q54 hn56
              refine ov_blk (ls2 := [(0, ov_r 90), (1, ov_i m), (2, ov_l x2), (4, ov_i x4)]) (st2 := [ov_i 54, ov_i x4]) (pc2 := 81) b_303_77_2 rfl rfl ?_
              refine ov_icge (tgt := 176) d_303_81 (by decide) (by omega) (by omega) (fun c57 => ?_) (fun c57 => ?_)
              · skip
                refine ov_blk (ls2 := [(0, ov_r 90), (1, ov_i m), (2, ov_l x2), (4, ov_i x4)]) (st2 := [ov_l x2]) (pc2 := 177) b_303_176_1 rfl rfl ?_
                have gz : ft_ff (h 96) (h 103) (h 103 59) (h 90 44) (h 90 45) m = x2 := by
                  have en : ft_cm (h27 90 45) m (Int.toNat x4) = ft_cm (h27 90 45) m 54 := by rw [show Int.toNat x4 = 54 by omega]
                  unfold ft_ff
                  rw [← TM]
                  unfold ft_am
                  show (if 0 ≤ m ∧ m ≤ 3 then (if m = 0 then (h27 90 43) else if (h27 90 43) = 0 then -1 else if m = 1 then (h27 90 44) else ft_cm (h27 90 45) m 54) else -1) = x2
                  (repeat' split) <;> omega
                exact ov_retl (st := []) d_303_177 rfl ⟨_, rfl, I28, (by show (h27 90 2) = (h 90 2) ∧ (h27 90 7) = (h 90 7) ∧ (h27 90 8) = (h 90 8) ∧ (h27 90 13) = (h 90 13) ∧ (h27 90 20) = (h 90 20) ∧ (h27 90 22) = (h 90 22) ∧ (h27 90 25) = (h 90 25) ∧ (h27 90 26) = (h 90 26) ∧ (h27 90 28) = (h 90 28) ∧ (h27 90 29) = (h 90 29) ∧ (h27 90 30) = (h 90 30) ∧ (h27 90 34) = (h 90 34) ∧ x2 = ft_ff (h 96) (h 103) (h 103 59) (h 90 44) (h 90 45) m; omega), E29, E30, E31, E32, E33, E34, E35, E36, E37, E38, E39, E40, E41, E42, E43, E44⟩
              · skip
                refine ov_blk (ls2 := [(0, ov_r 90), (1, ov_i m), (2, ov_l x2), (4, ov_i x4)]) (st2 := [ov_r 90]) (pc2 := 85) b_303_84_1 rfl rfl ?_
                refine ov_getf (v := ov_l (h27 90 45)) d_303_85 fl_Mo_468 (zb_90 I28) (zs_90 I28) rfl ?_
                refine ov_blk (ls2 := [(0, ov_r 90), (1, ov_i m), (2, ov_l x2), (4, ov_i x4)]) (st2 := [ov_l (ov_land (ov_lshr (h27 90 45) x4) 1)]) (pc2 := 93) b_303_88_4 rfl rfl ?_
                have kb := kb_01 (kn := h27 90 45) (q := x4) (by omega) (by omega)
                unfold ov_kb at kb
                refine ov_blk (ls2 := [(0, ov_r 90), (1, ov_i m), (2, ov_l x2), (4, ov_i x4)]) (st2 := [ov_i (ov_lcmp (ov_land (ov_lshr (h27 90 45) x4) 1) 1)]) (pc2 := 95) b_303_93_2 rfl rfl ?_
                have g58 := ov_lcg (ov_land (ov_lshr (h27 90 45) x4) 1) 1
                have g59 := ov_lcs (a := (ov_land (ov_lshr (h27 90 45) x4) 1)) (b := 1) (by omega) (by omega)
                refine ov_ifne (tgt := 130) d_303_95 (by decide) (by omega) (fun c60 => ?_) (fun c60 => ?_)
                · skip
                  refine ov_blk (ls2 := [(0, ov_r 90), (1, ov_i m), (2, ov_l x2), (4, ov_i x4), (5, ov_i 0)]) (st2 := [ov_i 0, ov_l x2]) (pc2 := 136) b_303_130_4 rfl rfl ?_
                  refine ov_ifeq (tgt := 167) d_303_136 (by decide) (by omega) (fun c61 => ?_) (fun c61 => ?_)
                  · skip
                    refine ov_blk (ls2 := [(0, ov_r 90), (1, ov_i m), (2, ov_l (ov_lor x2 0)), (4, ov_i x4), (5, ov_i 0)]) (st2 := []) (pc2 := 170) b_303_167_3 rfl rfl ?_
                    have st := ft_cm_s (C := h27 90 45) (w := m) (k := x4) (by omega) (v := x2) (u := 0) (by omega) (Or.inr ⟨by omega, rfl⟩)
                    refine ov_blk (ls2 := [(0, ov_r 90), (1, ov_i m), (2, ov_l (ov_lor x2 0)), (4, ov_i (x4 + 1)), (5, ov_i 0)]) (st2 := []) (pc2 := 173) b_303_170_1 rfl rfl ?_
                    refine ov_goto (tgt := 77) d_303_173 (by decide) ?_
                    refine ov_sub (ls2 := [(0, ov_r 90), (1, ov_i m), (2, ov_l (ov_lor x2 0)), (4, ov_i (x4 + 1))]) (List.Sublist.subset (by repeat (first | exact List.Sublist.refl _ | apply List.Sublist.cons_cons | apply List.Sublist.cons))) ?_
                    exact ih53 (ov_lor x2 0) (x4 + 1) (by show 0 ≤ (x4 + 1) ∧ (x4 + 1) ≤ 54 ∧ (ov_lor x2 0) = ft_cm (h27 90 45) m (Int.toNat (x4 + 1)); omega) (by omega)
                  · omega
                · skip
                  refine ov_blk (ls2 := [(0, ov_r 90), (1, ov_i m), (2, ov_l x2), (4, ov_i x4)]) (st2 := [ov_i 6, ov_i x4]) (pc2 := 102) b_303_98_2 rfl rfl ?_
                  refine ov_idiv d_303_102 (by omega) (by omega) (by omega) ?_
                  have g62 := ov_td (a := x4) (b := 6) (by omega)
                  refine ov_blk (ls2 := [(0, ov_r 90), (1, ov_i m), (2, ov_l x2), (4, ov_i x4)]) (st2 := [ov_i 8, ov_i (Int.tdiv x4 6)]) (pc2 := 105) b_303_103_1 rfl rfl ?_
                  refine ov_icge (tgt := 112) d_303_105 (by decide) (by omega) (by omega) (fun c63 => ?_) (fun c63 => ?_)
                  · skip
                    refine ov_blk (ls2 := [(0, ov_r 90), (1, ov_i m), (2, ov_l x2), (4, ov_i x4)]) (st2 := [ov_i 2, ov_i m, ov_i 0]) (pc2 := 115) b_303_112_3 rfl rfl ?_
                    refine ov_icne (tgt := 122) d_303_115 (by decide) (by omega) (by omega) (fun c64 => ?_) (fun c64 => ?_)
                    · skip
                      refine ov_blk (ls2 := [(0, ov_r 90), (1, ov_i m), (2, ov_l x2), (4, ov_i x4)]) (st2 := [ov_i 0, ov_i 0]) (pc2 := 123) b_303_122_1 rfl rfl ?_
                      refine ov_icne (tgt := 130) d_303_123 (by decide) (by omega) (by omega) (fun c65 => ?_) (fun c65 => ?_)
                      · omega
                      · skip
                        refine ov_blk (ls2 := [(0, ov_r 90), (1, ov_i m), (2, ov_l x2), (4, ov_i x4)]) (st2 := [ov_i 1]) (pc2 := 127) b_303_126_1 rfl rfl ?_
                        refine ov_goto (tgt := 131) d_303_127 (by decide) ?_
                        refine ov_blk (ls2 := [(0, ov_r 90), (1, ov_i m), (2, ov_l x2), (4, ov_i x4), (5, ov_i 1)]) (st2 := [ov_i 1, ov_l x2]) (pc2 := 136) b_303_131_3 rfl rfl ?_
                        refine ov_ifeq (tgt := 167) d_303_136 (by decide) (by omega) (fun c66 => ?_) (fun c66 => ?_)
                        · omega
                        · skip
                          refine ov_blk (ls2 := [(0, ov_r 90), (1, ov_i m), (2, ov_l x2), (4, ov_i x4), (5, ov_i 1)]) (st2 := [ov_i 2, ov_i m, ov_l 1, ov_l x2]) (pc2 := 142) b_303_139_3 rfl rfl ?_
                          refine ov_icne (tgt := 156) d_303_142 (by decide) (by omega) (by omega) (fun c67 => ?_) (fun c67 => ?_)
                          · skip
                            refine ov_blk (ls2 := [(0, ov_r 90), (1, ov_i m), (2, ov_l x2), (4, ov_i x4), (5, ov_i 1)]) (st2 := [ov_i 6, ov_i x4, ov_i 0, ov_l 1, ov_l x2]) (pc2 := 161) b_303_156_3 rfl rfl ?_
                            refine ov_irem d_303_161 (by omega) (by omega) (by omega) ?_
                            have g68 := ov_tm (a := x4) (b := 6) (by omega)
                            have g69 := ov_tmg (a := x4) (b := 6) (by omega) (by omega)
                            refine ov_blk (ls2 := [(0, ov_r 90), (1, ov_i m), (2, ov_l x2), (4, ov_i x4), (5, ov_i 1)]) (st2 := [ov_l (ov_lshl 1 (0 + (Int.tmod x4 6))), ov_l x2]) (pc2 := 164) b_303_162_2 rfl rfl ?_
                            refine ov_goto (tgt := 168) d_303_164 (by decide) ?_
                            refine ov_blk (ls2 := [(0, ov_r 90), (1, ov_i m), (2, ov_l (ov_lor x2 (ov_lshl 1 (0 + (Int.tmod x4 6))))), (4, ov_i x4), (5, ov_i 1)]) (st2 := []) (pc2 := 170) b_303_168_2 rfl rfl ?_
                            have st := ft_cm_s (C := h27 90 45) (w := m) (k := x4) (by omega) (v := x2) (u := (ov_lshl 1 (0 + (Int.tmod x4 6)))) (by omega) (Or.inl ⟨by omega, _, rfl, by unfold ft_cw; (repeat' split) <;> omega⟩)
                            refine ov_blk (ls2 := [(0, ov_r 90), (1, ov_i m), (2, ov_l (ov_lor x2 (ov_lshl 1 (0 + (Int.tmod x4 6))))), (4, ov_i (x4 + 1)), (5, ov_i 1)]) (st2 := []) (pc2 := 173) b_303_170_1 rfl rfl ?_
                            refine ov_goto (tgt := 77) d_303_173 (by decide) ?_
                            refine ov_sub (ls2 := [(0, ov_r 90), (1, ov_i m), (2, ov_l (ov_lor x2 (ov_lshl 1 (0 + (Int.tmod x4 6))))), (4, ov_i (x4 + 1))]) (List.Sublist.subset (by repeat (first | exact List.Sublist.refl _ | apply List.Sublist.cons_cons | apply List.Sublist.cons))) ?_
                            exact ih53 (ov_lor x2 (ov_lshl 1 (0 + (Int.tmod x4 6)))) (x4 + 1) (by show 0 ≤ (x4 + 1) ∧ (x4 + 1) ≤ 54 ∧ (ov_lor x2 (ov_lshl 1 (0 + (Int.tmod x4 6)))) = ft_cm (h27 90 45) m (Int.toNat (x4 + 1)); omega) (by omega)
                          · omega
                    · skip
                      refine ov_blk (ls2 := [(0, ov_r 90), (1, ov_i m), (2, ov_l x2), (4, ov_i x4)]) (st2 := [ov_i 1, ov_i 0]) (pc2 := 119) b_303_118_1 rfl rfl ?_
                      refine ov_goto (tgt := 123) d_303_119 (by decide) ?_
                      refine ov_icne (tgt := 130) d_303_123 (by decide) (by omega) (by omega) (fun c70 => ?_) (fun c70 => ?_)
                      · skip
                        refine ov_blk (ls2 := [(0, ov_r 90), (1, ov_i m), (2, ov_l x2), (4, ov_i x4), (5, ov_i 0)]) (st2 := [ov_i 0, ov_l x2]) (pc2 := 136) b_303_130_4 rfl rfl ?_
                        refine ov_ifeq (tgt := 167) d_303_136 (by decide) (by omega) (fun c71 => ?_) (fun c71 => ?_)
                        · skip
                          refine ov_blk (ls2 := [(0, ov_r 90), (1, ov_i m), (2, ov_l (ov_lor x2 0)), (4, ov_i x4), (5, ov_i 0)]) (st2 := []) (pc2 := 170) b_303_167_3 rfl rfl ?_
                          have st := ft_cm_s (C := h27 90 45) (w := m) (k := x4) (by omega) (v := x2) (u := 0) (by omega) (Or.inr ⟨by omega, rfl⟩)
                          refine ov_blk (ls2 := [(0, ov_r 90), (1, ov_i m), (2, ov_l (ov_lor x2 0)), (4, ov_i (x4 + 1)), (5, ov_i 0)]) (st2 := []) (pc2 := 173) b_303_170_1 rfl rfl ?_
                          refine ov_goto (tgt := 77) d_303_173 (by decide) ?_
                          refine ov_sub (ls2 := [(0, ov_r 90), (1, ov_i m), (2, ov_l (ov_lor x2 0)), (4, ov_i (x4 + 1))]) (List.Sublist.subset (by repeat (first | exact List.Sublist.refl _ | apply List.Sublist.cons_cons | apply List.Sublist.cons))) ?_
                          exact ih53 (ov_lor x2 0) (x4 + 1) (by show 0 ≤ (x4 + 1) ∧ (x4 + 1) ≤ 54 ∧ (ov_lor x2 0) = ft_cm (h27 90 45) m (Int.toNat (x4 + 1)); omega) (by omega)
                        · omega
                      · omega
                  · skip
                    refine ov_blk (ls2 := [(0, ov_r 90), (1, ov_i m), (2, ov_l x2), (4, ov_i x4)]) (st2 := [ov_i 1]) (pc2 := 109) b_303_108_1 rfl rfl ?_
                    refine ov_goto (tgt := 113) d_303_109 (by decide) ?_
                    refine ov_blk (ls2 := [(0, ov_r 90), (1, ov_i m), (2, ov_l x2), (4, ov_i x4)]) (st2 := [ov_i 2, ov_i m, ov_i 1]) (pc2 := 115) b_303_113_2 rfl rfl ?_
                    refine ov_icne (tgt := 122) d_303_115 (by decide) (by omega) (by omega) (fun c72 => ?_) (fun c72 => ?_)
                    · skip
                      refine ov_blk (ls2 := [(0, ov_r 90), (1, ov_i m), (2, ov_l x2), (4, ov_i x4)]) (st2 := [ov_i 0, ov_i 1]) (pc2 := 123) b_303_122_1 rfl rfl ?_
                      refine ov_icne (tgt := 130) d_303_123 (by decide) (by omega) (by omega) (fun c73 => ?_) (fun c73 => ?_)
                      · skip
                        refine ov_blk (ls2 := [(0, ov_r 90), (1, ov_i m), (2, ov_l x2), (4, ov_i x4), (5, ov_i 0)]) (st2 := [ov_i 0, ov_l x2]) (pc2 := 136) b_303_130_4 rfl rfl ?_
                        refine ov_ifeq (tgt := 167) d_303_136 (by decide) (by omega) (fun c74 => ?_) (fun c74 => ?_)
                        · skip
                          refine ov_blk (ls2 := [(0, ov_r 90), (1, ov_i m), (2, ov_l (ov_lor x2 0)), (4, ov_i x4), (5, ov_i 0)]) (st2 := []) (pc2 := 170) b_303_167_3 rfl rfl ?_
                          have st := ft_cm_s (C := h27 90 45) (w := m) (k := x4) (by omega) (v := x2) (u := 0) (by omega) (Or.inr ⟨by omega, rfl⟩)
                          refine ov_blk (ls2 := [(0, ov_r 90), (1, ov_i m), (2, ov_l (ov_lor x2 0)), (4, ov_i (x4 + 1)), (5, ov_i 0)]) (st2 := []) (pc2 := 173) b_303_170_1 rfl rfl ?_
                          refine ov_goto (tgt := 77) d_303_173 (by decide) ?_
                          refine ov_sub (ls2 := [(0, ov_r 90), (1, ov_i m), (2, ov_l (ov_lor x2 0)), (4, ov_i (x4 + 1))]) (List.Sublist.subset (by repeat (first | exact List.Sublist.refl _ | apply List.Sublist.cons_cons | apply List.Sublist.cons))) ?_
                          exact ih53 (ov_lor x2 0) (x4 + 1) (by show 0 ≤ (x4 + 1) ∧ (x4 + 1) ≤ 54 ∧ (ov_lor x2 0) = ft_cm (h27 90 45) m (Int.toNat (x4 + 1)); omega) (by omega)
                        · omega
                      · omega
                    · skip
                      refine ov_blk (ls2 := [(0, ov_r 90), (1, ov_i m), (2, ov_l x2), (4, ov_i x4)]) (st2 := [ov_i 1, ov_i 1]) (pc2 := 119) b_303_118_1 rfl rfl ?_
                      refine ov_goto (tgt := 123) d_303_119 (by decide) ?_
                      refine ov_icne (tgt := 130) d_303_123 (by decide) (by omega) (by omega) (fun c75 => ?_) (fun c75 => ?_)
                      · omega
                      · skip
                        refine ov_blk (ls2 := [(0, ov_r 90), (1, ov_i m), (2, ov_l x2), (4, ov_i x4)]) (st2 := [ov_i 1]) (pc2 := 127) b_303_126_1 rfl rfl ?_
                        refine ov_goto (tgt := 131) d_303_127 (by decide) ?_
                        refine ov_blk (ls2 := [(0, ov_r 90), (1, ov_i m), (2, ov_l x2), (4, ov_i x4), (5, ov_i 1)]) (st2 := [ov_i 1, ov_l x2]) (pc2 := 136) b_303_131_3 rfl rfl ?_
                        refine ov_ifeq (tgt := 167) d_303_136 (by decide) (by omega) (fun c76 => ?_) (fun c76 => ?_)
                        · omega
                        · skip
                          refine ov_blk (ls2 := [(0, ov_r 90), (1, ov_i m), (2, ov_l x2), (4, ov_i x4), (5, ov_i 1)]) (st2 := [ov_i 2, ov_i m, ov_l 1, ov_l x2]) (pc2 := 142) b_303_139_3 rfl rfl ?_
                          refine ov_icne (tgt := 156) d_303_142 (by decide) (by omega) (by omega) (fun c77 => ?_) (fun c77 => ?_)
                          · omega
                          · skip
                            refine ov_blk (ls2 := [(0, ov_r 90), (1, ov_i m), (2, ov_l x2), (4, ov_i x4), (5, ov_i 1)]) (st2 := [ov_i 6, ov_i x4, ov_i 8, ov_l 1, ov_l x2]) (pc2 := 151) b_303_145_3 rfl rfl ?_
                            refine ov_idiv d_303_151 (by omega) (by omega) (by omega) ?_
                            have g78 := ov_td (a := x4) (b := 6) (by omega)
                            refine ov_blk (ls2 := [(0, ov_r 90), (1, ov_i m), (2, ov_l x2), (4, ov_i x4), (5, ov_i 1)]) (st2 := [ov_i (8 * (Int.tdiv x4 6)), ov_l 1, ov_l x2]) (pc2 := 153) b_303_152_1 rfl rfl ?_
                            refine ov_goto (tgt := 157) d_303_153 (by decide) ?_
                            refine ov_blk (ls2 := [(0, ov_r 90), (1, ov_i m), (2, ov_l x2), (4, ov_i x4), (5, ov_i 1)]) (st2 := [ov_i 6, ov_i x4, ov_i (8 * (Int.tdiv x4 6)), ov_l 1, ov_l x2]) (pc2 := 161) b_303_157_2 rfl rfl ?_
                            refine ov_irem d_303_161 (by omega) (by omega) (by omega) ?_
                            have g79 := ov_tm (a := x4) (b := 6) (by omega)
                            have g80 := ov_tmg (a := x4) (b := 6) (by omega) (by omega)
                            refine ov_blk (ls2 := [(0, ov_r 90), (1, ov_i m), (2, ov_l x2), (4, ov_i x4), (5, ov_i 1)]) (st2 := [ov_l (ov_lshl 1 ((8 * (Int.tdiv x4 6)) + (Int.tmod x4 6))), ov_l x2]) (pc2 := 164) b_303_162_2 rfl rfl ?_
                            refine ov_goto (tgt := 168) d_303_164 (by decide) ?_
                            refine ov_blk (ls2 := [(0, ov_r 90), (1, ov_i m), (2, ov_l (ov_lor x2 (ov_lshl 1 ((8 * (Int.tdiv x4 6)) + (Int.tmod x4 6))))), (4, ov_i x4), (5, ov_i 1)]) (st2 := []) (pc2 := 170) b_303_168_2 rfl rfl ?_
                            have st := ft_cm_s (C := h27 90 45) (w := m) (k := x4) (by omega) (v := x2) (u := (ov_lshl 1 ((8 * (Int.tdiv x4 6)) + (Int.tmod x4 6)))) (by omega) (Or.inl ⟨by omega, _, rfl, by unfold ft_cw; (repeat' split) <;> omega⟩)
                            refine ov_blk (ls2 := [(0, ov_r 90), (1, ov_i m), (2, ov_l (ov_lor x2 (ov_lshl 1 ((8 * (Int.tdiv x4 6)) + (Int.tmod x4 6))))), (4, ov_i (x4 + 1)), (5, ov_i 1)]) (st2 := []) (pc2 := 173) b_303_170_1 rfl rfl ?_
                            refine ov_goto (tgt := 77) d_303_173 (by decide) ?_
                            refine ov_sub (ls2 := [(0, ov_r 90), (1, ov_i m), (2, ov_l (ov_lor x2 (ov_lshl 1 ((8 * (Int.tdiv x4 6)) + (Int.tmod x4 6))))), (4, ov_i (x4 + 1))]) (List.Sublist.subset (by repeat (first | exact List.Sublist.refl _ | apply List.Sublist.cons_cons | apply List.Sublist.cons))) ?_
                            exact ih53 (ov_lor x2 (ov_lshl 1 ((8 * (Int.tdiv x4 6)) + (Int.tmod x4 6)))) (x4 + 1) (by show 0 ≤ (x4 + 1) ∧ (x4 + 1) ≤ 54 ∧ (ov_lor x2 (ov_lshl 1 ((8 * (Int.tdiv x4 6)) + (Int.tmod x4 6)))) = ft_cm (h27 90 45) m (Int.toNat (x4 + 1)); omega) (by omega)
          exact L55 55 0 0 (by show 0 ≤ 0 ∧ 0 ≤ 54 ∧ 0 = ft_cm (h27 90 45) m (Int.toNat 0); omega) (by omega)
        · skip
          refine ov_blk (ls2 := [(0, ov_r 90), (1, ov_i m)]) (st2 := [ov_r 90]) (pc2 := 67) b_303_66_1 rfl rfl ?_
          refine ov_getf (v := ov_i (h27 90 44)) d_303_67 fl_Mo_465 (zb_90 I28) (zs_90 I28) rfl ?_
          have g81 := rg_90_44 I28
          refine ov_blk (ls2 := [(0, ov_r 90), (1, ov_i m)]) (st2 := [ov_l (ov_w (h27 90 44))]) (pc2 := 71) b_303_70_1 rfl rfl ?_
          have g82 := ov_wg (h27 90 44)
          have g83 := ov_wq (h27 90 44)
          have gz : ft_ff (h 96) (h 103) (h 103 59) (h 90 44) (h 90 45) m = (ov_w (h27 90 44)) := by
            unfold ft_ff
            rw [← TM]
            unfold ft_am
            show (if 0 ≤ m ∧ m ≤ 3 then (if m = 0 then (h27 90 43) else if (h27 90 43) = 0 then -1 else if m = 1 then (h27 90 44) else ft_cm (h27 90 45) m 54) else -1) = (ov_w (h27 90 44))
            (repeat' split) <;> omega
          exact ov_retl (st := []) d_303_71 rfl ⟨_, rfl, I28, (by show (h27 90 2) = (h 90 2) ∧ (h27 90 7) = (h 90 7) ∧ (h27 90 8) = (h 90 8) ∧ (h27 90 13) = (h 90 13) ∧ (h27 90 20) = (h 90 20) ∧ (h27 90 22) = (h 90 22) ∧ (h27 90 25) = (h 90 25) ∧ (h27 90 26) = (h 90 26) ∧ (h27 90 28) = (h 90 28) ∧ (h27 90 29) = (h 90 29) ∧ (h27 90 30) = (h 90 30) ∧ (h27 90 34) = (h 90 34) ∧ (ov_w (h27 90 44)) = ft_ff (h 96) (h 103) (h 103 59) (h 90 44) (h 90 45) m; omega), E29, E30, E31, E32, E33, E34, E35, E36, E37, E38, E39, E40, E41, E42, E43, E44⟩
      · skip
        refine ov_blk (ls2 := [(0, ov_r 90), (1, ov_i m)]) (st2 := [ov_i m]) (pc2 := 47) b_303_46_1 rfl rfl ?_
        refine ov_ifne (tgt := 57) d_303_47 (by decide) (by omega) (fun c84 => ?_) (fun c84 => ?_)
        · skip
          refine ov_ldc2 (n := (-1)) d_303_57 kc_Mo_433 ?_
          have gz : ft_ff (h 96) (h 103) (h 103 59) (h 90 44) (h 90 45) m = (-1) := by
            unfold ft_ff
            rw [← TM]
            unfold ft_am
            show (if 0 ≤ m ∧ m ≤ 3 then (if m = 0 then (h27 90 43) else if (h27 90 43) = 0 then -1 else if m = 1 then (h27 90 44) else ft_cm (h27 90 45) m 54) else -1) = (-1)
            (repeat' split) <;> omega
          exact ov_retl (st := []) d_303_60 rfl ⟨_, rfl, I28, (by show (h27 90 2) = (h 90 2) ∧ (h27 90 7) = (h 90 7) ∧ (h27 90 8) = (h 90 8) ∧ (h27 90 13) = (h 90 13) ∧ (h27 90 20) = (h 90 20) ∧ (h27 90 22) = (h 90 22) ∧ (h27 90 25) = (h 90 25) ∧ (h27 90 26) = (h 90 26) ∧ (h27 90 28) = (h 90 28) ∧ (h27 90 29) = (h 90 29) ∧ (h27 90 30) = (h 90 30) ∧ (h27 90 34) = (h 90 34) ∧ (-1) = ft_ff (h 96) (h 103) (h 103 59) (h 90 44) (h 90 45) m; omega), E29, E30, E31, E32, E33, E34, E35, E36, E37, E38, E39, E40, E41, E42, E43, E44⟩
        · omega
  · skip
    have f4_ : v3 = 0 := by omega
    have f85 : m < (0 : Int) ∨ (3 : Int) < m := f4.2.2 (by omega)
    clear f4
    refine ov_ldc2 (n := (-1)) d_303_14 kc_Mo_433 ?_
    have gz : ft_ff (h 96) (h 103) (h 103 59) (h 90 44) (h 90 45) m = (-1) := by unfold ft_ff ft_am; rw [if_neg (fun q => by omega)]
    exact ov_retl (st := []) d_303_17 rfl ⟨_, rfl, I1, ⟨rfl, rfl, rfl, rfl, rfl, rfl, rfl, rfl, rfl, rfl, rfl, rfl, (by show (-1) = ft_ff (h 96) (h 103) (h 103 59) (h 90 44) (h 90 45) m; omega)⟩, rfl, rfl, rfl, rfl, rfl, rfl, rfl, rfl, rfl, rfl, rfl, rfl, rfl, rfl, rfl, rfl⟩

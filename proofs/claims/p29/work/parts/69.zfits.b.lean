theorem b_190_50_1 : ov_ds ov_m190.2.1 50 [.iinc 4 1] = true := by decide +kernel
theorem b_191_24_12 : ov_ds ov_m191.2.1 24 [.land, .lstore 6, .lload_n 3, .lload 6, .bipush 8, .iload 5, .iload_n 1, .isub, .imul, .lshl, .lor, .lstore_n 3] = true := by decide +kernel
theorem b_191_40_1 : ov_ds ov_m191.2.1 40 [.iinc 5 1] = true := by decide +kernel
abbrev P_fState_sightingsWithin_4 (F : ov_H) (z : ov_Z) (h : ov_H) (qs : Int → Int) (qt : Int → Int) (nn : Int) (w : Int) (c : Int) (l : Int) : Option ov_V → ov_Z → ov_H → Prop := fun r0 z' h' => ∃ r : Int, r0 = some (ov_i r) ∧ z = z' ∧ h = h' ∧ (r = ft_w qs qt w c l (Int.toNat nn) ∧ -1 ≤ r ∧ r ≤ 8)
set_option maxHeartbeats 4000000 in
theorem c_fState_sightingsWithin_4 {u : ov_U} {F : ov_H} (qs : Int → Int) (qt : Int → Int) (nn : Int) {z : ov_Z} {h : ov_H} (d : Nat) (hd : 0 ≤ d) (U : ov_cap u) (I : ov_I F z h) (w : Int) (c : Int) (l : Int) (g_w : ov_g w) (g_c : ov_g c) (g_l : ov_g l) (p0 : (h 4 5) = nn) (cq7 : (h 7) = qs) (cq8 : (h 8) = qt) : ov_T u d ov_m190 [ov_r 4, ov_i w, ov_i c, ov_i l] z h (P_fState_sightingsWithin_4 F z h qs qt nn w c l) := by
  refine ov_en rfl (Nat.le_of_ble_eq_true rfl) ?_
  show ov_R u d ov_m190 0 [(0, ov_r 4), (1, ov_i w), (2, ov_i c), (3, ov_i l)] [] z h (P_fState_sightingsWithin_4 F z h qs qt nn w c l)
  have g45 := rg_4_5 I
  have z0 : ft_w qs qt w c l (Int.toNat 0) = 0 := rfl
  refine ov_blk (ls2 := [(0, ov_r 4), (1, ov_i w), (2, ov_i c), (3, ov_i l), (4, ov_i 0), (5, ov_i 0)]) (st2 := []) (pc2 := 6) b_190_0_4 rfl rfl ?_
  have L4 : ∀ (n1 : Nat) (x4 : Int) (x5 : Int) (q3 : 0 ≤ x4 ∧ x4 ≤ x5 ∧ 0 ≤ x5 ∧ x5 ≤ nn ∧ x4 = ft_w qs qt w c l (Int.toNat x5)), 8 - x5 < (n1 : Int) → ov_R u d ov_m190 6 [(0, ov_r 4), (1, ov_i w), (2, ov_i c), (3, ov_i l), (4, ov_i x4), (5, ov_i x5)] [] z h (P_fState_sightingsWithin_4 F z h qs qt nn w c l) := by
    intro n1
    induction n1 with
    | zero =>
      intro x4 x5 q3 hn5
      exact absurd hn5 (by omega)
    | succ n1 ih2 =>
      intro x4 x5 q3 hn5
      refine ov_blk (ls2 := [(0, ov_r 4), (1, ov_i w), (2, ov_i c), (3, ov_i l), (4, ov_i x4), (5, ov_i x5)]) (st2 := [ov_r 4, ov_i x5]) (pc2 := 9) b_190_6_2 rfl rfl ?_
      refine ov_getf (v := ov_i (h 4 5)) d_190_9 fl_State_41 (zb_4 I) (zs_4 I) rfl ?_
      have g6 := rg_4_5 I
      refine ov_icge (tgt := 59) d_190_12 (by decide) (by omega) (by omega) (fun c7 => ?_) (fun c7 => ?_)
      · skip
        have en : ft_w qs qt w c l (Int.toNat x5) = ft_w qs qt w c l (Int.toNat nn) := by rw [show x5 = nn by omega]
        refine ov_blk (ls2 := [(0, ov_r 4), (1, ov_i w), (2, ov_i c), (3, ov_i l), (4, ov_i x4), (5, ov_i x5)]) (st2 := [ov_i x4]) (pc2 := 61) b_190_59_1 rfl rfl ?_
        exact ov_reti (st := []) d_190_61 rfl ⟨_, rfl, rfl, rfl, (by show x4 = ft_w qs qt w c l (Int.toNat nn) ∧ -1 ≤ x4 ∧ x4 ≤ 8; omega)⟩
      · skip
        refine ov_blk (ls2 := [(0, ov_r 4), (1, ov_i w), (2, ov_i c), (3, ov_i l), (4, ov_i x4), (5, ov_i x5)]) (st2 := [ov_r 4]) (pc2 := 16) b_190_15_1 rfl rfl ?_
        refine ov_getf (v := ov_r 7) d_190_16 fl_State_18 (zb_4 I) (zs_4 I) (congrArg ov_r (rg_4_8 I)) ?_
        refine ov_blk (ls2 := [(0, ov_r 4), (1, ov_i w), (2, ov_i c), (3, ov_i l), (4, ov_i x4), (5, ov_i x5)]) (st2 := [ov_i x5, ov_r 7]) (pc2 := 21) b_190_19_1 rfl rfl ?_
        refine ov_iald d_190_21 (zb_7 I) (zs_7 I) (by omega) ?_
        show ov_R u d ov_m190 22 [(0, ov_r 4), (1, ov_i w), (2, ov_i c), (3, ov_i l), (4, ov_i x4), (5, ov_i x5)] [ov_i (h 7 x5)] z h (P_fState_sightingsWithin_4 F z h qs qt nn w c l)
        have g8 := ra_7 I x5
        have k7 := congrFun cq7 x5
        refine ov_blk (ls2 := [(0, ov_r 4), (1, ov_i w), (2, ov_i c), (3, ov_i l), (4, ov_i x4), (5, ov_i x5)]) (st2 := [ov_i w, ov_i (h 7 x5)]) (pc2 := 23) b_190_22_1 rfl rfl ?_
        refine ov_icne (tgt := 53) d_190_23 (by decide) (by omega) (by omega) (fun c9 => ?_) (fun c9 => ?_)
        · skip
          have st := (ft_w_s (q7 := qs) (q8 := qt) (c := w) (a := c) (b := l) (x := x5) (by omega) (by omega)).1 (by omega)
          refine ov_blk (ls2 := [(0, ov_r 4), (1, ov_i w), (2, ov_i c), (3, ov_i l), (4, ov_i x4), (5, ov_i (x5 + 1))]) (st2 := []) (pc2 := 56) b_190_53_1 rfl rfl ?_
          refine ov_goto (tgt := 6) d_190_56 (by decide) ?_
          exact ih2 x4 (x5 + 1) (by show 0 ≤ x4 ∧ x4 ≤ (x5 + 1) ∧ 0 ≤ (x5 + 1) ∧ (x5 + 1) ≤ nn ∧ x4 = ft_w qs qt w c l (Int.toNat (x5 + 1)); omega) (by omega)
        · skip
          refine ov_blk (ls2 := [(0, ov_r 4), (1, ov_i w), (2, ov_i c), (3, ov_i l), (4, ov_i x4), (5, ov_i x5)]) (st2 := [ov_r 4]) (pc2 := 27) b_190_26_1 rfl rfl ?_
          refine ov_getf (v := ov_r 8) d_190_27 fl_State_21 (zb_4 I) (zs_4 I) (congrArg ov_r (rg_4_9 I)) ?_
          refine ov_blk (ls2 := [(0, ov_r 4), (1, ov_i w), (2, ov_i c), (3, ov_i l), (4, ov_i x4), (5, ov_i x5)]) (st2 := [ov_i x5, ov_r 8]) (pc2 := 32) b_190_30_1 rfl rfl ?_
          refine ov_iald d_190_32 (zb_8 I) (zs_8 I) (by omega) ?_
          show ov_R u d ov_m190 33 [(0, ov_r 4), (1, ov_i w), (2, ov_i c), (3, ov_i l), (4, ov_i x4), (5, ov_i x5)] [ov_i (h 8 x5)] z h (P_fState_sightingsWithin_4 F z h qs qt nn w c l)
          have g10 := ra_8 I x5
          have k8 := congrFun cq8 x5
          refine ov_blk (ls2 := [(0, ov_r 4), (1, ov_i w), (2, ov_i c), (3, ov_i l), (4, ov_i x4), (5, ov_i x5)]) (st2 := [ov_i c, ov_i (h 8 x5)]) (pc2 := 34) b_190_33_1 rfl rfl ?_
          refine ov_iclt (tgt := 48) d_190_34 (by decide) (by omega) (by omega) (fun c11 => ?_) (fun c11 => ?_)
          · skip
            have bd := ft_w_x (q7 := qs) (q8 := qt) (c := w) (a := c) (b := l) (x := x5) (n := nn) (by omega) (by omega) (by omega) (by omega) (by omega)
            refine ov_blk (ls2 := [(0, ov_r 4), (1, ov_i w), (2, ov_i c), (3, ov_i l), (4, ov_i x4), (5, ov_i x5)]) (st2 := [ov_i (-1)]) (pc2 := 49) b_190_48_1 rfl rfl ?_
            exact ov_reti (st := []) d_190_49 rfl ⟨_, rfl, rfl, rfl, (by show (-1) = ft_w qs qt w c l (Int.toNat nn) ∧ -1 ≤ (-1) ∧ (-1) ≤ 8; omega)⟩
          · skip
            refine ov_blk (ls2 := [(0, ov_r 4), (1, ov_i w), (2, ov_i c), (3, ov_i l), (4, ov_i x4), (5, ov_i x5)]) (st2 := [ov_r 4]) (pc2 := 38) b_190_37_1 rfl rfl ?_
            refine ov_getf (v := ov_r 8) d_190_38 fl_State_21 (zb_4 I) (zs_4 I) (congrArg ov_r (rg_4_9 I)) ?_
            refine ov_blk (ls2 := [(0, ov_r 4), (1, ov_i w), (2, ov_i c), (3, ov_i l), (4, ov_i x4), (5, ov_i x5)]) (st2 := [ov_i x5, ov_r 8]) (pc2 := 43) b_190_41_1 rfl rfl ?_
            refine ov_iald d_190_43 (zb_8 I) (zs_8 I) (by omega) ?_
            show ov_R u d ov_m190 44 [(0, ov_r 4), (1, ov_i w), (2, ov_i c), (3, ov_i l), (4, ov_i x4), (5, ov_i x5)] [ov_i (h 8 x5)] z h (P_fState_sightingsWithin_4 F z h qs qt nn w c l)
            have g12 := ra_8 I x5
            refine ov_blk (ls2 := [(0, ov_r 4), (1, ov_i w), (2, ov_i c), (3, ov_i l), (4, ov_i x4), (5, ov_i x5)]) (st2 := [ov_i l, ov_i (h 8 x5)]) (pc2 := 45) b_190_44_1 rfl rfl ?_
            refine ov_icle (tgt := 50) d_190_45 (by decide) (by omega) (by omega) (fun c13 => ?_) (fun c13 => ?_)
            · skip
              refine ov_blk (ls2 := [(0, ov_r 4), (1, ov_i w), (2, ov_i c), (3, ov_i l), (4, ov_i (x4 + 1)), (5, ov_i x5)]) (st2 := []) (pc2 := 53) b_190_50_1 rfl rfl ?_
              have st := (ft_w_s (q7 := qs) (q8 := qt) (c := w) (a := c) (b := l) (x := x5) (by omega) (by omega)).2.2 (by omega) (by omega)
              refine ov_blk (ls2 := [(0, ov_r 4), (1, ov_i w), (2, ov_i c), (3, ov_i l), (4, ov_i (x4 + 1)), (5, ov_i (x5 + 1))]) (st2 := []) (pc2 := 56) b_190_53_1 rfl rfl ?_
              refine ov_goto (tgt := 6) d_190_56 (by decide) ?_
              exact ih2 (x4 + 1) (x5 + 1) (by show 0 ≤ (x4 + 1) ∧ (x4 + 1) ≤ (x5 + 1) ∧ 0 ≤ (x5 + 1) ∧ (x5 + 1) ≤ nn ∧ (x4 + 1) = ft_w qs qt w c l (Int.toNat (x5 + 1)); omega) (by omega)
            · skip
              have bd := ft_w_x (q7 := qs) (q8 := qt) (c := w) (a := c) (b := l) (x := x5) (n := nn) (by omega) (by omega) (by omega) (by omega) (by omega)
              refine ov_blk (ls2 := [(0, ov_r 4), (1, ov_i w), (2, ov_i c), (3, ov_i l), (4, ov_i x4), (5, ov_i x5)]) (st2 := [ov_i (-1)]) (pc2 := 49) b_190_48_1 rfl rfl ?_
              exact ov_reti (st := []) d_190_49 rfl ⟨_, rfl, rfl, rfl, (by show (-1) = ft_w qs qt w c l (Int.toNat nn) ∧ -1 ≤ (-1) ∧ (-1) ≤ 8; omega)⟩
  exact L4 9 0 0 (by show 0 ≤ 0 ∧ 0 ≤ 0 ∧ 0 ≤ 0 ∧ 0 ≤ nn ∧ 0 = ft_w qs qt w c l (Int.toNat 0); omega) (by omega)
abbrev P_fWays_commonRows_46 (F : ov_H) (z : ov_Z) (h : ov_H) (f : Int) (e : Int) : Option ov_V → ov_Z → ov_H → Prop := fun r0 z' h' => ∃ r : Int, r0 = some (ov_l r) ∧ z = z' ∧ h = h' ∧ (r = ft_cr (h 46 2) f (Int.toNat (e - f)))
set_option maxHeartbeats 4000000 in
theorem c_fWays_commonRows_46 {u : ov_U} {F : ov_H} {z : ov_Z} {h : ov_H} (d : Nat) (hd : 0 ≤ d) (U : ov_cap u) (I : ov_I F z h) (f : Int) (e : Int) (g_f : ov_g f) (g_e : ov_g e) (p0 : 0 ≤ f ∧ f ≤ e ∧ e ≤ 9) : ov_T u d ov_m191 [ov_r 46, ov_i f, ov_i e] z h (P_fWays_commonRows_46 F z h f e) := by
  refine ov_en rfl (Nat.le_of_ble_eq_true rfl) ?_
  show ov_R u d ov_m191 0 [(0, ov_r 46), (1, ov_i f), (2, ov_i e)] [] z h (P_fWays_commonRows_46 F z h f e)
  have z0 : ft_cr (h 46 2) f (Int.toNat (f - f)) = 0 := by rw [show Int.toNat (f - f) = 0 by omega]; rfl
  refine ov_blk (ls2 := [(0, ov_r 46), (1, ov_i f), (2, ov_i e), (3, ov_l 0), (5, ov_i f)]) (st2 := []) (pc2 := 5) b_191_0_4 rfl rfl ?_
  have L4 : ∀ (n1 : Nat) (x3 : Int) (x5 : Int) (q3 : f ≤ x5 ∧ x5 ≤ e ∧ x3 = ft_cr (h 46 2) f (Int.toNat (x5 - f))), e - x5 < (n1 : Int) → ov_R u d ov_m191 5 [(0, ov_r 46), (1, ov_i f), (2, ov_i e), (3, ov_l x3), (5, ov_i x5)] [] z h (P_fWays_commonRows_46 F z h f e) := by
    intro n1
    induction n1 with
    | zero =>
      intro x3 x5 q3 hn5
      exact absurd hn5 (by omega)
    | succ n1 ih2 =>
      intro x3 x5 q3 hn5
      refine ov_blk (ls2 := [(0, ov_r 46), (1, ov_i f), (2, ov_i e), (3, ov_l x3), (5, ov_i x5)]) (st2 := [ov_i e, ov_i x5]) (pc2 := 8) b_191_5_2 rfl rfl ?_
      refine ov_icge (tgt := 46) d_191_8 (by decide) (by omega) (by omega) (fun c6 => ?_) (fun c6 => ?_)
      · skip
        have en : ft_cr (h 46 2) f (Int.toNat (x5 - f)) = ft_cr (h 46 2) f (Int.toNat (e - f)) := by rw [show x5 = e by omega]
        refine ov_blk (ls2 := [(0, ov_r 46), (1, ov_i f), (2, ov_i e), (3, ov_l x3), (5, ov_i x5)]) (st2 := [ov_l x3]) (pc2 := 47) b_191_46_1 rfl rfl ?_
        exact ov_retl (st := []) d_191_47 rfl ⟨_, rfl, rfl, rfl, (by show x3 = ft_cr (h 46 2) f (Int.toNat (e - f)); omega)⟩
      · skip
        refine ov_blk (ls2 := [(0, ov_r 46), (1, ov_i f), (2, ov_i e), (3, ov_l x3), (5, ov_i x5)]) (st2 := [ov_r 46]) (pc2 := 12) b_191_11_1 rfl rfl ?_
        refine ov_getf (v := ov_l (h 46 2)) d_191_12 fl_Ways_95 (zb_46 I) (zs_46 I) rfl ?_
        refine ov_blk (ls2 := [(0, ov_r 46), (1, ov_i f), (2, ov_i e), (3, ov_l x3), (5, ov_i x5)]) (st2 := [ov_l (ov_lshr (h 46 2) (x5 * 6))]) (pc2 := 21) b_191_15_4 rfl rfl ?_
        refine ov_ldc2 (n := 63) d_191_21 kc_Ways_110 ?_
        refine ov_blk (ls2 := [(0, ov_r 46), (1, ov_i f), (2, ov_i e), (3, ov_l (ov_lor x3 (ov_lshl (ov_land (ov_lshr (h 46 2) (x5 * 6)) 63) (8 * (x5 - f))))), (5, ov_i x5), (6, ov_l (ov_land (ov_lshr (h 46 2) (x5 * 6)) 63))]) (st2 := []) (pc2 := 40) b_191_24_12 rfl rfl ?_
        have st := ft_cr_s (C := h 46 2) (fr := f) (y := x5) (by omega) (v := x3) (by omega)
        refine ov_blk (ls2 := [(0, ov_r 46), (1, ov_i f), (2, ov_i e), (3, ov_l (ov_lor x3 (ov_lshl (ov_land (ov_lshr (h 46 2) (x5 * 6)) 63) (8 * (x5 - f))))), (5, ov_i (x5 + 1)), (6, ov_l (ov_land (ov_lshr (h 46 2) (x5 * 6)) 63))]) (st2 := []) (pc2 := 43) b_191_40_1 rfl rfl ?_
        refine ov_goto (tgt := 5) d_191_43 (by decide) ?_
        refine ov_sub (ls2 := [(0, ov_r 46), (1, ov_i f), (2, ov_i e), (3, ov_l (ov_lor x3 (ov_lshl (ov_land (ov_lshr (h 46 2) (x5 * 6)) 63) (8 * (x5 - f))))), (5, ov_i (x5 + 1))]) (List.Sublist.subset (by repeat (first | exact List.Sublist.refl _ | apply List.Sublist.cons_cons | apply List.Sublist.cons))) ?_
        exact ih2 (ov_lor x3 (ov_lshl (ov_land (ov_lshr (h 46 2) (x5 * 6)) 63) (8 * (x5 - f)))) (x5 + 1) (by show f ≤ (x5 + 1) ∧ (x5 + 1) ≤ e ∧ (ov_lor x3 (ov_lshl (ov_land (ov_lshr (h 46 2) (x5 * 6)) 63) (8 * (x5 - f)))) = ft_cr (h 46 2) f (Int.toNat ((x5 + 1) - f)); omega) (by omega)
  exact L4 10 0 f (by show f ≤ f ∧ f ≤ e ∧ 0 = ft_cr (h 46 2) f (Int.toNat (f - f)); omega) (by omega)

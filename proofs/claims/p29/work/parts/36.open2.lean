
abbrev P_Ways_soonestWay_46_58 (F : ov_H) (z : ov_Z) (h : ov_H) (c : Int) (s : Int) (w : Int) : Option ov_V → ov_Z → ov_H → Prop := fun r0 z' h' => ∃ r : Int, r0 = some (ov_i r) ∧ ov_I F z' h' ∧ (-2 ≤ r ∧ r ≤ 1 ∧ (h' 36 7) = (h 36 7) ∧ (h' 1 1) = (h 1 1) ∧ (h' 90 2) = (h 90 2) ∧ (h' 0 10) = (h 0 10) ∧ (h' 0 11) = (h 0 11) ∧ (h' 0 12) = (h 0 12) ∧ (h' 0 13) = (h 0 13) ∧ (h' 3 1) = (h 3 1) ∧ (h' 36 8) = (h 36 8) ∧ (h' 46 4) = (h 46 4) ∧ (h' 49 4) = (h 49 4) ∧ (h' 49 5) = (h 49 5) ∧ (h' 64 0) = (h 64 0) ∧ (h' 76 0) = (h 76 0))
set_option maxHeartbeats 4000000 in
theorem c_Ways_soonestWay_46_58 {u : ov_U} {F : ov_H} {z : ov_Z} {h : ov_H} (d : Nat) (hd : 20 ≤ d) (U : ov_cap u) (I : ov_I F z h) (c : Int) (s : Int) (w : Int) (g_c : ov_g c) (g_s : ov_g s) (g_w : ov_g w) (p0 : 0 ≤ c ∧ c ≤ 53) (p1 : 0 ≤ s ∧ s ≤ 1000000) (p2 : 0 ≤ h 64 0) (p3 : F (-5) 58 = 1) : ov_T u d ov_m113 [ov_r 46, ov_r 58, ov_i c, ov_i s, ov_i w] z h (P_Ways_soonestWay_46_58 F z h c s w) := by
  have O := ov_ok58 I p2 p3
  have hm := O.2.2.2.2.1
  have fin : ∀ (r : Int) (h' : ov_H), -2 ≤ r ∧ r ≤ 1 → ov_I F z h' → (∀ a : Int, a ≠ 46 → a ≠ 47 → h' a = h a) → (∀ k : Int, k ≠ 3 → h' 46 k = h 46 k) → (P_Ways_soonestWay_46_58 F z h c s w) (some (ov_i r)) z h' := fun r h' hr I' E G => ⟨r, rfl, I', hr.1, hr.2, (congrFun (E 36 (by decide) (by decide)) 7), (congrFun (E 1 (by decide) (by decide)) 1), (congrFun (E 90 (by decide) (by decide)) 2), (congrFun (E 0 (by decide) (by decide)) 10), (congrFun (E 0 (by decide) (by decide)) 11), (congrFun (E 0 (by decide) (by decide)) 12), (congrFun (E 0 (by decide) (by decide)) 13), (congrFun (E 3 (by decide) (by decide)) 1), (congrFun (E 36 (by decide) (by decide)) 8), (G 4 (by decide)), (congrFun (E 49 (by decide) (by decide)) 4), (congrFun (E 49 (by decide) (by decide)) 5), (congrFun (E 64 (by decide) (by decide)) 0), (congrFun (E 76 (by decide) (by decide)) 0)⟩
  refine ov_en rfl (Nat.le_of_ble_eq_true rfl) ?_
  show ov_R u d ov_m113 0 [(0, ov_r 46), (1, ov_r 58), (2, ov_i c), (3, ov_i s), (4, ov_i w)] [] z h (P_Ways_soonestWay_46_58 F z h c s w)
  refine ov_blk (ls2 := [(0, ov_r 46), (1, ov_r 58), (2, ov_i c), (3, ov_i s), (4, ov_i w)]) (st2 := [ov_i s, ov_i c, ov_r 58, ov_r 46]) (pc2 := 4) b_113_0_4 rfl rfl ?_
  refine ov_cV (as := [ov_r 58, ov_i c, ov_i s]) (st := []) (d2 := d - 1) d_113_4 lk_Ways_59 rfl (Nat.le_of_ble_eq_true rfl) (c := 12) (zb_46 I) (zs_46 I) ⟨by decide, rfl⟩ (by omega) (c_arrb_58 (d - 1) (by omega) U I c s (by omega) (by omega) p2 p3) ?_
  rintro _ _ h4 ⟨v5, rfl, rfl, I5, E4, G4, e4, f5⟩
  show ov_R u d ov_m113 7 [(0, ov_r 46), (1, ov_r 58), (2, ov_i c), (3, ov_i s), (4, ov_i w)] [ov_i v5] z h4 (P_Ways_soonestWay_46_58 F z h c s w)
  refine ov_blk (ls2 := [(0, ov_r 46), (1, ov_r 58), (2, ov_i c), (3, ov_i s), (4, ov_i w), (5, ov_i v5)]) (st2 := [ov_i (-1), ov_i v5]) (pc2 := 12) b_113_7_3 rfl rfl ?_
  refine ov_icne (tgt := 18) d_113_12 (by decide) (by omega) (by omega) (fun c1 => ?_) (fun c1 => ?_)
  · skip
    have hV : ov_SA (ov_tw58 h) c s = v5 ∧ 0 ≤ v5 ∧ v5 ≤ 1012000 := by omega
    refine ov_blk (ls2 := [(0, ov_r 46), (1, ov_r 58), (2, ov_i c), (3, ov_i s), (4, ov_i w), (5, ov_i v5), (6, ov_i c), (7, ov_i s), (8, ov_i 0)]) (st2 := []) (pc2 := 27) b_113_18_6 rfl rfl ?_
    have L1 : ∀ (n1 : Nat) (x6 x7 x8 : Int) (h6 : ov_H) (I6 : ov_I F z h6) (E6 : ∀ a : Int, a ≠ 46 → a ≠ 47 → h6 a = h a) (G6 : ∀ k : Int, k ≠ 3 → h6 46 k = h 46 k) (e6 : h6 46 3 = 58) (hS : ov_SA (ov_tw58 h) x6 x7 = v5) (q : 0 ≤ x6 ∧ x6 ≤ 53 ∧ 0 ≤ x7 ∧ x7 ≤ 1002000 + 90 * x6 ∧ 0 ≤ x8 ∧ x8 ≤ 13), 13 - x8 < (n1 : Int) → ov_R u d ov_m113 27 [(0, ov_r 46), (1, ov_r 58), (2, ov_i c), (3, ov_i s), (4, ov_i w), (5, ov_i v5), (6, ov_i x6), (7, ov_i x7), (8, ov_i x8)] [] z h6 (P_Ways_soonestWay_46_58 F z h c s w) := by
      intro n1
      induction n1 with
      | zero =>
        intro x6 x7 x8 h6 I6 E6 G6 e6 hS q hn
        exact absurd hn (by omega)
      | succ n1 ih =>
        intro x6 x7 x8 h6 I6 E6 G6 e6 hS q hn
        refine ov_blk (ls2 := [(0, ov_r 46), (1, ov_r 58), (2, ov_i c), (3, ov_i s), (4, ov_i w), (5, ov_i v5), (6, ov_i x6), (7, ov_i x7), (8, ov_i x8)]) (st2 := [ov_i 13, ov_i x8]) (pc2 := 31) b_113_27_2 rfl rfl ?_
        refine ov_icge (tgt := 107) d_113_31 (by decide) (by omega) (by omega) (fun c2 => ?_) (fun c2 => ?_)
        · skip
          refine ov_blk (ls2 := [(0, ov_r 46), (1, ov_r 58), (2, ov_i c), (3, ov_i s), (4, ov_i w), (5, ov_i v5), (6, ov_i x6), (7, ov_i x7), (8, ov_i x8)]) (st2 := [ov_i (-2)]) (pc2 := 109) b_113_107_1 rfl rfl ?_
          exact ov_reti (st := []) d_113_109 rfl (fin _ _ (by omega) I6 E6 G6)
        · skip
          refine ov_blk (ls2 := [(0, ov_r 46), (1, ov_r 58), (2, ov_i c), (3, ov_i s), (4, ov_i w), (5, ov_i v5), (6, ov_i x6), (7, ov_i x7), (8, ov_i x8)]) (st2 := [ov_r 46, ov_i x6]) (pc2 := 37) b_113_34_2 rfl rfl ?_
          refine ov_getf (v := ov_r 58) d_113_37 fl_Ways_18 (zb_46 I6) (zs_46 I6) (congrArg ov_r e6) ?_
          refine ov_cV (as := []) (st := [ov_i x6]) (d2 := d - 1) d_113_40 lk_Ways_28 rfl (Nat.le_of_ble_eq_true rfl) (c := 9) (zb_58 I6) (zs_58 I6) ⟨by decide, rfl⟩ (by omega) (c_Town_home_58 (d - 1) (by omega) U I6 p3) ?_
          rintro _ _ _ ⟨v10, rfl, rfl, rfl, f9⟩
          show ov_R u d ov_m113 43 [(0, ov_r 46), (1, ov_r 58), (2, ov_i c), (3, ov_i s), (4, ov_i w), (5, ov_i v5), (6, ov_i x6), (7, ov_i x7), (8, ov_i x8)] [ov_i v10, ov_i x6] z h6 (P_Ways_soonestWay_46_58 F z h c s w)
          have hv : v10 = ov_hmf (ov_tw58 h) := by
            have q : v10 = ov_hmf (ov_tw58 h6) := f9.1
            rw [ov_tw58_eq E6] at q
            exact q
          clear f9
          refine ov_iceq (tgt := 107) d_113_43 (by decide) (by omega) (by omega) (fun c3 => ?_) (fun c3 => ?_)
          · skip
            refine ov_blk (ls2 := [(0, ov_r 46), (1, ov_r 58), (2, ov_i c), (3, ov_i s), (4, ov_i w), (5, ov_i v5), (6, ov_i x6), (7, ov_i x7), (8, ov_i x8)]) (st2 := [ov_i (-2)]) (pc2 := 109) b_113_107_1 rfl rfl ?_
            exact ov_reti (st := []) d_113_109 rfl (fin _ _ (by omega) I6 E6 G6)
          · skip
            have w6 : 0 ≤ h6 64 0 := by rw [E6 64 (by decide) (by decide)]; exact p2
            refine ov_blk (ls2 := [(0, ov_r 46), (1, ov_r 58), (2, ov_i c), (3, ov_i s), (4, ov_i w), (5, ov_i v5), (6, ov_i x6), (7, ov_i x7), (8, ov_i x8)]) (st2 := [ov_i v5, ov_i x7, ov_i x6, ov_r 46]) (pc2 := 53) b_113_46_4 rfl rfl ?_
            refine ov_cV (as := [ov_i x6, ov_i x7, ov_i v5]) (st := []) (d2 := d - 1) d_113_53 lk_Ways_63 rfl (Nat.le_of_ble_eq_true rfl) (c := 12) (zb_46 I6) (zs_46 I6) ⟨by decide, rfl⟩ (by omega) (c_asob_58 (d - 1) (by omega) U I6 x6 x7 v5 e6 (by omega) (by omega) (by omega) w6 p3) ?_
            rintro _ _ h7 ⟨v11, rfl, rfl, I7, E7, G7, e7, f11⟩
            show ov_R u d ov_m113 56 [(0, ov_r 46), (1, ov_r 58), (2, ov_i c), (3, ov_i s), (4, ov_i w), (5, ov_i v5), (6, ov_i x6), (7, ov_i x7), (8, ov_i x8)] [ov_i v11] z h7 (P_Ways_soonestWay_46_58 F z h c s w)
            rw [ov_tw58_eq E6] at f11
            have F7 : ∀ a : Int, a ≠ 46 → a ≠ 47 → h7 a = h a := fun a h1 h2 => by rw [E7 a h1 h2]; exact E6 a h1 h2
            have K7 : ∀ k : Int, k ≠ 3 → h7 46 k = h 46 k := fun k hk => by rw [G7 k hk]; exact G6 k hk
            -- what follows the choice of the way
            have go : ∀ way : Int, way = 0 ∨ way = 1 → ov_ob (ov_tw58 h) x6 way = 1 → ov_SA (ov_tw58 h) (ov_nxc x6 way) (ov_fwc (ov_tw58 h) x6 way x7) = v5 → ov_R u d ov_m113 66 [(0, ov_r 46), (1, ov_r 58), (2, ov_i c), (3, ov_i s), (4, ov_i w), (5, ov_i v5), (6, ov_i x6), (7, ov_i x7), (8, ov_i x8), (9, ov_i way)] [] z h7 (P_Ways_soonestWay_46_58 F z h c s w) := by
              intro way hw ho hs
              have nl := ov_nxc_le O (c := x6) (by omega) hw ho
              have fr := ov_fwc_rng O (c := x6) (way := way) (t := x7)
              refine ov_blk (ls2 := [(0, ov_r 46), (1, ov_r 58), (2, ov_i c), (3, ov_i s), (4, ov_i w), (5, ov_i v5), (6, ov_i x6), (7, ov_i x7), (8, ov_i x8), (9, ov_i way)]) (st2 := [ov_i w, ov_i x8]) (pc2 := 70) b_113_66_2 rfl rfl ?_
              refine ov_icne (tgt := 76) d_113_70 (by decide) (by omega) (by omega) (fun c5 => ?_) (fun c5 => ?_)
              · skip
                refine ov_blk (ls2 := [(0, ov_r 46), (1, ov_r 58), (2, ov_i c), (3, ov_i s), (4, ov_i w), (5, ov_i v5), (6, ov_i x6), (7, ov_i x7), (8, ov_i x8), (9, ov_i way)]) (st2 := [ov_i x7, ov_i way, ov_i x6, ov_r 46]) (pc2 := 83) b_113_76_4 rfl rfl ?_
                refine ov_cV (as := [ov_i x6, ov_i way, ov_i x7]) (st := []) (d2 := d - 1) d_113_83 lk_Ways_46 rfl (Nat.le_of_ble_eq_true rfl) (c := 12) (zb_46 I7) (zs_46 I7) ⟨by decide, rfl⟩ (by omega) (c_Ways_afterStreet_46_k46_3_58_b (d - 1) (by omega) U I7 x6 way x7 e7 (by omega) (by omega) (by omega) (by omega) (by omega)) ?_
                rintro _ _ _ ⟨v12, rfl, rfl, rfl, f12⟩
                show ov_R u d ov_m113 86 [(0, ov_r 46), (1, ov_r 58), (2, ov_i c), (3, ov_i s), (4, ov_i w), (5, ov_i v5), (6, ov_i x6), (7, ov_i x7), (8, ov_i x8), (9, ov_i way)] [ov_i v12] z h7 (P_Ways_soonestWay_46_58 F z h c s w)
                have g12 : v12 = ov_fwc (ov_tw58 h) x6 way x7 := by
                  have q : v12 = ov_fwc (ov_tw58 h7) x6 way x7 := f12.1
                  rw [ov_tw58_eq F7] at q
                  exact q
                clear f12
                refine ov_blk (ls2 := [(0, ov_r 46), (1, ov_r 58), (2, ov_i c), (3, ov_i s), (4, ov_i w), (5, ov_i v5), (6, ov_i x6), (7, ov_i v12), (8, ov_i x8), (9, ov_i way)]) (st2 := [ov_r 46]) (pc2 := 89) b_113_86_2 rfl rfl ?_
                refine ov_getf (v := ov_r 58) d_113_89 fl_Ways_18 (zb_46 I7) (zs_46 I7) (congrArg ov_r e7) ?_
                refine ov_blk (ls2 := [(0, ov_r 46), (1, ov_r 58), (2, ov_i c), (3, ov_i s), (4, ov_i w), (5, ov_i v5), (6, ov_i x6), (7, ov_i v12), (8, ov_i x8), (9, ov_i way)]) (st2 := [ov_i way, ov_i x6, ov_r 58]) (pc2 := 96) b_113_92_2 rfl rfl ?_
                refine ov_cV (as := [ov_i x6, ov_i way]) (st := []) (d2 := d - 1) d_113_96 lk_Ways_42 rfl (Nat.le_of_ble_eq_true rfl) (c := 9) (zb_58 I7) (zs_58 I7) ⟨by decide, rfl⟩ (by omega) (c_Town_after_58 (d - 1) (by omega) U I7 x6 way (by omega) (by omega) (by omega)) ?_
                rintro _ _ _ ⟨v13, rfl, rfl, rfl, f13⟩
                show ov_R u d ov_m113 99 [(0, ov_r 46), (1, ov_r 58), (2, ov_i c), (3, ov_i s), (4, ov_i w), (5, ov_i v5), (6, ov_i x6), (7, ov_i v12), (8, ov_i x8), (9, ov_i way)] [ov_i v13] z h7 (P_Ways_soonestWay_46_58 F z h c s w)
                have g13 : ov_nxc x6 way = v13 := by
                  rcases hw with e | e
                  · rw [e, f13.1 e]
                    rfl
                  · rw [f13.2 (by omega), e]
                    rfl
                clear f13
                rw [g13, ← g12] at hs
                rw [g13] at nl
                rw [← g12] at fr
                refine ov_blk (ls2 := [(0, ov_r 46), (1, ov_r 58), (2, ov_i c), (3, ov_i s), (4, ov_i w), (5, ov_i v5), (6, ov_i v13), (7, ov_i v12), (8, ov_i (x8 + 1)), (9, ov_i way)]) (st2 := []) (pc2 := 104) b_113_99_2 rfl rfl ?_
                refine ov_goto (tgt := 27) d_113_104 (by decide) ?_
                refine ov_sub (ls2 := [(0, ov_r 46), (1, ov_r 58), (2, ov_i c), (3, ov_i s), (4, ov_i w), (5, ov_i v5), (6, ov_i v13), (7, ov_i v12), (8, ov_i (x8 + 1))]) (List.Sublist.subset (by repeat (first | exact List.Sublist.refl _ | apply List.Sublist.cons_cons | apply List.Sublist.cons))) ?_
                exact ih v13 v12 (x8 + 1) _ I7 F7 K7 e7 hs (by omega) (by omega)
              · skip
                refine ov_blk (ls2 := [(0, ov_r 46), (1, ov_r 58), (2, ov_i c), (3, ov_i s), (4, ov_i w), (5, ov_i v5), (6, ov_i x6), (7, ov_i x7), (8, ov_i x8), (9, ov_i way)]) (st2 := [ov_i way]) (pc2 := 75) b_113_73_1 rfl rfl ?_
                exact ov_reti (st := []) d_113_75 rfl (fin _ _ (by omega) I7 F7 K7)
            refine ov_ifeq (tgt := 63) d_113_56 (by decide) (by omega) (fun c4 => ?_) (fun c4 => ?_)
            · skip
              have on := ov_SA_on O (c := x6) (t := x7) (e := v5) (by omega) (by omega) hS (by omega) (by
                rcases f11 with q | q
                · omega
                · exact q.2)
              refine ov_blk (ls2 := [(0, ov_r 46), (1, ov_r 58), (2, ov_i c), (3, ov_i s), (4, ov_i w), (5, ov_i v5), (6, ov_i x6), (7, ov_i x7), (8, ov_i x8), (9, ov_i 1)]) (st2 := []) (pc2 := 66) b_113_63_2 rfl rfl ?_
              exact go 1 (Or.inr rfl) on.1 on.2
            · skip
              have ov : ov_ob (ov_tw58 h) x6 0 = 1 ∧ ov_SA (ov_tw58 h) (x6 + 1) (ov_fwc (ov_tw58 h) x6 0 x7) = v5 := by
                rcases f11 with q | q
                · exact q.2
                · omega
              refine ov_blk (ls2 := [(0, ov_r 46), (1, ov_r 58), (2, ov_i c), (3, ov_i s), (4, ov_i w), (5, ov_i v5), (6, ov_i x6), (7, ov_i x7), (8, ov_i x8)]) (st2 := [ov_i 0]) (pc2 := 60) b_113_59_1 rfl rfl ?_
              refine ov_goto (tgt := 64) d_113_60 (by decide) ?_
              refine ov_blk (ls2 := [(0, ov_r 46), (1, ov_r 58), (2, ov_i c), (3, ov_i s), (4, ov_i w), (5, ov_i v5), (6, ov_i x6), (7, ov_i x7), (8, ov_i x8), (9, ov_i 0)]) (st2 := []) (pc2 := 66) b_113_64_1 rfl rfl ?_
              exact go 0 (Or.inl rfl) ov.1 ov.2
    exact L1 14 c s 0 h4 I5 E4 G4 e4 hV.1 (by omega) (by omega)
  · skip
    refine ov_blk (ls2 := [(0, ov_r 46), (1, ov_r 58), (2, ov_i c), (3, ov_i s), (4, ov_i w), (5, ov_i v5)]) (st2 := [ov_i (-2)]) (pc2 := 17) b_113_15_1 rfl rfl ?_
    exact ov_reti (st := []) d_113_17 rfl (fin _ _ (by omega) I5 E4 G4)
abbrev P_Ways_soonestWay_46_70 (F : ov_H) (z : ov_Z) (h : ov_H) (c : Int) (s : Int) (w : Int) : Option ov_V → ov_Z → ov_H → Prop := fun r0 z' h' => ∃ r : Int, r0 = some (ov_i r) ∧ ov_I F z' h' ∧ (-2 ≤ r ∧ r ≤ 1 ∧ (h' 36 7) = (h 36 7) ∧ (h' 1 1) = (h 1 1) ∧ (h' 90 2) = (h 90 2) ∧ (h' 0 10) = (h 0 10) ∧ (h' 0 11) = (h 0 11) ∧ (h' 0 12) = (h 0 12) ∧ (h' 0 13) = (h 0 13) ∧ (h' 3 1) = (h 3 1) ∧ (h' 36 8) = (h 36 8) ∧ (h' 46 4) = (h 46 4) ∧ (h' 49 4) = (h 49 4) ∧ (h' 49 5) = (h 49 5) ∧ (h' 64 0) = (h 64 0) ∧ (h' 76 0) = (h 76 0))
set_option maxHeartbeats 4000000 in
theorem c_Ways_soonestWay_46_70 {u : ov_U} {F : ov_H} {z : ov_Z} {h : ov_H} (d : Nat) (hd : 20 ≤ d) (U : ov_cap u) (I : ov_I F z h) (c : Int) (s : Int) (w : Int) (g_c : ov_g c) (g_s : ov_g s) (g_w : ov_g w) (p0 : 0 ≤ c ∧ c ≤ 53) (p1 : 0 ≤ s ∧ s ≤ 1000000) (p2 : 0 ≤ h 76 0) (p3 : F (-5) 70 = 1) : ov_T u d ov_m113 [ov_r 46, ov_r 70, ov_i c, ov_i s, ov_i w] z h (P_Ways_soonestWay_46_70 F z h c s w) := by
  have O := ov_ok70 I p2 p3
  have hm := O.2.2.2.2.1
  have fin : ∀ (r : Int) (h' : ov_H), -2 ≤ r ∧ r ≤ 1 → ov_I F z h' → (∀ a : Int, a ≠ 46 → a ≠ 47 → h' a = h a) → (∀ k : Int, k ≠ 3 → h' 46 k = h 46 k) → (P_Ways_soonestWay_46_70 F z h c s w) (some (ov_i r)) z h' := fun r h' hr I' E G => ⟨r, rfl, I', hr.1, hr.2, (congrFun (E 36 (by decide) (by decide)) 7), (congrFun (E 1 (by decide) (by decide)) 1), (congrFun (E 90 (by decide) (by decide)) 2), (congrFun (E 0 (by decide) (by decide)) 10), (congrFun (E 0 (by decide) (by decide)) 11), (congrFun (E 0 (by decide) (by decide)) 12), (congrFun (E 0 (by decide) (by decide)) 13), (congrFun (E 3 (by decide) (by decide)) 1), (congrFun (E 36 (by decide) (by decide)) 8), (G 4 (by decide)), (congrFun (E 49 (by decide) (by decide)) 4), (congrFun (E 49 (by decide) (by decide)) 5), (congrFun (E 64 (by decide) (by decide)) 0), (congrFun (E 76 (by decide) (by decide)) 0)⟩
  refine ov_en rfl (Nat.le_of_ble_eq_true rfl) ?_
  show ov_R u d ov_m113 0 [(0, ov_r 46), (1, ov_r 70), (2, ov_i c), (3, ov_i s), (4, ov_i w)] [] z h (P_Ways_soonestWay_46_70 F z h c s w)
  refine ov_blk (ls2 := [(0, ov_r 46), (1, ov_r 70), (2, ov_i c), (3, ov_i s), (4, ov_i w)]) (st2 := [ov_i s, ov_i c, ov_r 70, ov_r 46]) (pc2 := 4) b_113_0_4 rfl rfl ?_
  refine ov_cV (as := [ov_r 70, ov_i c, ov_i s]) (st := []) (d2 := d - 1) d_113_4 lk_Ways_59 rfl (Nat.le_of_ble_eq_true rfl) (c := 12) (zb_46 I) (zs_46 I) ⟨by decide, rfl⟩ (by omega) (c_arrb_70 (d - 1) (by omega) U I c s (by omega) (by omega) p2 p3) ?_
  rintro _ _ h4 ⟨v5, rfl, rfl, I5, E4, G4, e4, f5⟩
  show ov_R u d ov_m113 7 [(0, ov_r 46), (1, ov_r 70), (2, ov_i c), (3, ov_i s), (4, ov_i w)] [ov_i v5] z h4 (P_Ways_soonestWay_46_70 F z h c s w)
  refine ov_blk (ls2 := [(0, ov_r 46), (1, ov_r 70), (2, ov_i c), (3, ov_i s), (4, ov_i w), (5, ov_i v5)]) (st2 := [ov_i (-1), ov_i v5]) (pc2 := 12) b_113_7_3 rfl rfl ?_
  refine ov_icne (tgt := 18) d_113_12 (by decide) (by omega) (by omega) (fun c1 => ?_) (fun c1 => ?_)
  · skip
    have hV : ov_SA (ov_tw70 h) c s = v5 ∧ 0 ≤ v5 ∧ v5 ≤ 1012000 := by omega
    refine ov_blk (ls2 := [(0, ov_r 46), (1, ov_r 70), (2, ov_i c), (3, ov_i s), (4, ov_i w), (5, ov_i v5), (6, ov_i c), (7, ov_i s), (8, ov_i 0)]) (st2 := []) (pc2 := 27) b_113_18_6 rfl rfl ?_
    have L1 : ∀ (n1 : Nat) (x6 x7 x8 : Int) (h6 : ov_H) (I6 : ov_I F z h6) (E6 : ∀ a : Int, a ≠ 46 → a ≠ 47 → h6 a = h a) (G6 : ∀ k : Int, k ≠ 3 → h6 46 k = h 46 k) (e6 : h6 46 3 = 70) (hS : ov_SA (ov_tw70 h) x6 x7 = v5) (q : 0 ≤ x6 ∧ x6 ≤ 53 ∧ 0 ≤ x7 ∧ x7 ≤ 1002000 + 90 * x6 ∧ 0 ≤ x8 ∧ x8 ≤ 13), 13 - x8 < (n1 : Int) → ov_R u d ov_m113 27 [(0, ov_r 46), (1, ov_r 70), (2, ov_i c), (3, ov_i s), (4, ov_i w), (5, ov_i v5), (6, ov_i x6), (7, ov_i x7), (8, ov_i x8)] [] z h6 (P_Ways_soonestWay_46_70 F z h c s w) := by
      intro n1
      induction n1 with
      | zero =>
        intro x6 x7 x8 h6 I6 E6 G6 e6 hS q hn
        exact absurd hn (by omega)
      | succ n1 ih =>
        intro x6 x7 x8 h6 I6 E6 G6 e6 hS q hn
        refine ov_blk (ls2 := [(0, ov_r 46), (1, ov_r 70), (2, ov_i c), (3, ov_i s), (4, ov_i w), (5, ov_i v5), (6, ov_i x6), (7, ov_i x7), (8, ov_i x8)]) (st2 := [ov_i 13, ov_i x8]) (pc2 := 31) b_113_27_2 rfl rfl ?_
        refine ov_icge (tgt := 107) d_113_31 (by decide) (by omega) (by omega) (fun c2 => ?_) (fun c2 => ?_)
        · skip
          refine ov_blk (ls2 := [(0, ov_r 46), (1, ov_r 70), (2, ov_i c), (3, ov_i s), (4, ov_i w), (5, ov_i v5), (6, ov_i x6), (7, ov_i x7), (8, ov_i x8)]) (st2 := [ov_i (-2)]) (pc2 := 109) b_113_107_1 rfl rfl ?_
          exact ov_reti (st := []) d_113_109 rfl (fin _ _ (by omega) I6 E6 G6)
        · skip
          refine ov_blk (ls2 := [(0, ov_r 46), (1, ov_r 70), (2, ov_i c), (3, ov_i s), (4, ov_i w), (5, ov_i v5), (6, ov_i x6), (7, ov_i x7), (8, ov_i x8)]) (st2 := [ov_r 46, ov_i x6]) (pc2 := 37) b_113_34_2 rfl rfl ?_
          refine ov_getf (v := ov_r 70) d_113_37 fl_Ways_18 (zb_46 I6) (zs_46 I6) (congrArg ov_r e6) ?_
          refine ov_cV (as := []) (st := [ov_i x6]) (d2 := d - 1) d_113_40 lk_Ways_28 rfl (Nat.le_of_ble_eq_true rfl) (c := 9) (zb_70 I6) (zs_70 I6) ⟨by decide, rfl⟩ (by omega) (c_Town_home_70 (d - 1) (by omega) U I6 p3) ?_
          rintro _ _ _ ⟨v10, rfl, rfl, rfl, f9⟩
          show ov_R u d ov_m113 43 [(0, ov_r 46), (1, ov_r 70), (2, ov_i c), (3, ov_i s), (4, ov_i w), (5, ov_i v5), (6, ov_i x6), (7, ov_i x7), (8, ov_i x8)] [ov_i v10, ov_i x6] z h6 (P_Ways_soonestWay_46_70 F z h c s w)
          have hv : v10 = ov_hmf (ov_tw70 h) := by
            have q : v10 = ov_hmf (ov_tw70 h6) := f9.1
            rw [ov_tw70_eq E6] at q
            exact q
          clear f9
          refine ov_iceq (tgt := 107) d_113_43 (by decide) (by omega) (by omega) (fun c3 => ?_) (fun c3 => ?_)
          · skip
            refine ov_blk (ls2 := [(0, ov_r 46), (1, ov_r 70), (2, ov_i c), (3, ov_i s), (4, ov_i w), (5, ov_i v5), (6, ov_i x6), (7, ov_i x7), (8, ov_i x8)]) (st2 := [ov_i (-2)]) (pc2 := 109) b_113_107_1 rfl rfl ?_
            exact ov_reti (st := []) d_113_109 rfl (fin _ _ (by omega) I6 E6 G6)
          · skip
            have w6 : 0 ≤ h6 76 0 := by rw [E6 76 (by decide) (by decide)]; exact p2
            refine ov_blk (ls2 := [(0, ov_r 46), (1, ov_r 70), (2, ov_i c), (3, ov_i s), (4, ov_i w), (5, ov_i v5), (6, ov_i x6), (7, ov_i x7), (8, ov_i x8)]) (st2 := [ov_i v5, ov_i x7, ov_i x6, ov_r 46]) (pc2 := 53) b_113_46_4 rfl rfl ?_
            refine ov_cV (as := [ov_i x6, ov_i x7, ov_i v5]) (st := []) (d2 := d - 1) d_113_53 lk_Ways_63 rfl (Nat.le_of_ble_eq_true rfl) (c := 12) (zb_46 I6) (zs_46 I6) ⟨by decide, rfl⟩ (by omega) (c_asob_70 (d - 1) (by omega) U I6 x6 x7 v5 e6 (by omega) (by omega) (by omega) w6 p3) ?_
            rintro _ _ h7 ⟨v11, rfl, rfl, I7, E7, G7, e7, f11⟩
            show ov_R u d ov_m113 56 [(0, ov_r 46), (1, ov_r 70), (2, ov_i c), (3, ov_i s), (4, ov_i w), (5, ov_i v5), (6, ov_i x6), (7, ov_i x7), (8, ov_i x8)] [ov_i v11] z h7 (P_Ways_soonestWay_46_70 F z h c s w)
            rw [ov_tw70_eq E6] at f11
            have F7 : ∀ a : Int, a ≠ 46 → a ≠ 47 → h7 a = h a := fun a h1 h2 => by rw [E7 a h1 h2]; exact E6 a h1 h2
            have K7 : ∀ k : Int, k ≠ 3 → h7 46 k = h 46 k := fun k hk => by rw [G7 k hk]; exact G6 k hk
            -- what follows the choice of the way
            have go : ∀ way : Int, way = 0 ∨ way = 1 → ov_ob (ov_tw70 h) x6 way = 1 → ov_SA (ov_tw70 h) (ov_nxc x6 way) (ov_fwc (ov_tw70 h) x6 way x7) = v5 → ov_R u d ov_m113 66 [(0, ov_r 46), (1, ov_r 70), (2, ov_i c), (3, ov_i s), (4, ov_i w), (5, ov_i v5), (6, ov_i x6), (7, ov_i x7), (8, ov_i x8), (9, ov_i way)] [] z h7 (P_Ways_soonestWay_46_70 F z h c s w) := by
              intro way hw ho hs
              have nl := ov_nxc_le O (c := x6) (by omega) hw ho
              have fr := ov_fwc_rng O (c := x6) (way := way) (t := x7)
              refine ov_blk (ls2 := [(0, ov_r 46), (1, ov_r 70), (2, ov_i c), (3, ov_i s), (4, ov_i w), (5, ov_i v5), (6, ov_i x6), (7, ov_i x7), (8, ov_i x8), (9, ov_i way)]) (st2 := [ov_i w, ov_i x8]) (pc2 := 70) b_113_66_2 rfl rfl ?_
              refine ov_icne (tgt := 76) d_113_70 (by decide) (by omega) (by omega) (fun c5 => ?_) (fun c5 => ?_)
              · skip
                refine ov_blk (ls2 := [(0, ov_r 46), (1, ov_r 70), (2, ov_i c), (3, ov_i s), (4, ov_i w), (5, ov_i v5), (6, ov_i x6), (7, ov_i x7), (8, ov_i x8), (9, ov_i way)]) (st2 := [ov_i x7, ov_i way, ov_i x6, ov_r 46]) (pc2 := 83) b_113_76_4 rfl rfl ?_
                refine ov_cV (as := [ov_i x6, ov_i way, ov_i x7]) (st := []) (d2 := d - 1) d_113_83 lk_Ways_46 rfl (Nat.le_of_ble_eq_true rfl) (c := 12) (zb_46 I7) (zs_46 I7) ⟨by decide, rfl⟩ (by omega) (c_Ways_afterStreet_46_k46_3_70_b (d - 1) (by omega) U I7 x6 way x7 e7 (by omega) (by omega) (by omega) (by omega) (by omega)) ?_
                rintro _ _ _ ⟨v12, rfl, rfl, rfl, f12⟩
                show ov_R u d ov_m113 86 [(0, ov_r 46), (1, ov_r 70), (2, ov_i c), (3, ov_i s), (4, ov_i w), (5, ov_i v5), (6, ov_i x6), (7, ov_i x7), (8, ov_i x8), (9, ov_i way)] [ov_i v12] z h7 (P_Ways_soonestWay_46_70 F z h c s w)
                have g12 : v12 = ov_fwc (ov_tw70 h) x6 way x7 := by
                  have q : v12 = ov_fwc (ov_tw70 h7) x6 way x7 := f12.1
                  rw [ov_tw70_eq F7] at q
                  exact q
                clear f12
                refine ov_blk (ls2 := [(0, ov_r 46), (1, ov_r 70), (2, ov_i c), (3, ov_i s), (4, ov_i w), (5, ov_i v5), (6, ov_i x6), (7, ov_i v12), (8, ov_i x8), (9, ov_i way)]) (st2 := [ov_r 46]) (pc2 := 89) b_113_86_2 rfl rfl ?_
                refine ov_getf (v := ov_r 70) d_113_89 fl_Ways_18 (zb_46 I7) (zs_46 I7) (congrArg ov_r e7) ?_
                refine ov_blk (ls2 := [(0, ov_r 46), (1, ov_r 70), (2, ov_i c), (3, ov_i s), (4, ov_i w), (5, ov_i v5), (6, ov_i x6), (7, ov_i v12), (8, ov_i x8), (9, ov_i way)]) (st2 := [ov_i way, ov_i x6, ov_r 70]) (pc2 := 96) b_113_92_2 rfl rfl ?_
                refine ov_cV (as := [ov_i x6, ov_i way]) (st := []) (d2 := d - 1) d_113_96 lk_Ways_42 rfl (Nat.le_of_ble_eq_true rfl) (c := 9) (zb_70 I7) (zs_70 I7) ⟨by decide, rfl⟩ (by omega) (c_Town_after_70 (d - 1) (by omega) U I7 x6 way (by omega) (by omega) (by omega)) ?_
                rintro _ _ _ ⟨v13, rfl, rfl, rfl, f13⟩
                show ov_R u d ov_m113 99 [(0, ov_r 46), (1, ov_r 70), (2, ov_i c), (3, ov_i s), (4, ov_i w), (5, ov_i v5), (6, ov_i x6), (7, ov_i v12), (8, ov_i x8), (9, ov_i way)] [ov_i v13] z h7 (P_Ways_soonestWay_46_70 F z h c s w)
                have g13 : ov_nxc x6 way = v13 := by
                  rcases hw with e | e
                  · rw [e, f13.1 e]
                    rfl
                  · rw [f13.2 (by omega), e]
                    rfl
                clear f13
                rw [g13, ← g12] at hs
                rw [g13] at nl
                rw [← g12] at fr
                refine ov_blk (ls2 := [(0, ov_r 46), (1, ov_r 70), (2, ov_i c), (3, ov_i s), (4, ov_i w), (5, ov_i v5), (6, ov_i v13), (7, ov_i v12), (8, ov_i (x8 + 1)), (9, ov_i way)]) (st2 := []) (pc2 := 104) b_113_99_2 rfl rfl ?_
                refine ov_goto (tgt := 27) d_113_104 (by decide) ?_
                refine ov_sub (ls2 := [(0, ov_r 46), (1, ov_r 70), (2, ov_i c), (3, ov_i s), (4, ov_i w), (5, ov_i v5), (6, ov_i v13), (7, ov_i v12), (8, ov_i (x8 + 1))]) (List.Sublist.subset (by repeat (first | exact List.Sublist.refl _ | apply List.Sublist.cons_cons | apply List.Sublist.cons))) ?_
                exact ih v13 v12 (x8 + 1) _ I7 F7 K7 e7 hs (by omega) (by omega)
              · skip
                refine ov_blk (ls2 := [(0, ov_r 46), (1, ov_r 70), (2, ov_i c), (3, ov_i s), (4, ov_i w), (5, ov_i v5), (6, ov_i x6), (7, ov_i x7), (8, ov_i x8), (9, ov_i way)]) (st2 := [ov_i way]) (pc2 := 75) b_113_73_1 rfl rfl ?_
                exact ov_reti (st := []) d_113_75 rfl (fin _ _ (by omega) I7 F7 K7)
            refine ov_ifeq (tgt := 63) d_113_56 (by decide) (by omega) (fun c4 => ?_) (fun c4 => ?_)
            · skip
              have on := ov_SA_on O (c := x6) (t := x7) (e := v5) (by omega) (by omega) hS (by omega) (by
                rcases f11 with q | q
                · omega
                · exact q.2)
              refine ov_blk (ls2 := [(0, ov_r 46), (1, ov_r 70), (2, ov_i c), (3, ov_i s), (4, ov_i w), (5, ov_i v5), (6, ov_i x6), (7, ov_i x7), (8, ov_i x8), (9, ov_i 1)]) (st2 := []) (pc2 := 66) b_113_63_2 rfl rfl ?_
              exact go 1 (Or.inr rfl) on.1 on.2
            · skip
              have ov : ov_ob (ov_tw70 h) x6 0 = 1 ∧ ov_SA (ov_tw70 h) (x6 + 1) (ov_fwc (ov_tw70 h) x6 0 x7) = v5 := by
                rcases f11 with q | q
                · exact q.2
                · omega
              refine ov_blk (ls2 := [(0, ov_r 46), (1, ov_r 70), (2, ov_i c), (3, ov_i s), (4, ov_i w), (5, ov_i v5), (6, ov_i x6), (7, ov_i x7), (8, ov_i x8)]) (st2 := [ov_i 0]) (pc2 := 60) b_113_59_1 rfl rfl ?_
              refine ov_goto (tgt := 64) d_113_60 (by decide) ?_
              refine ov_blk (ls2 := [(0, ov_r 46), (1, ov_r 70), (2, ov_i c), (3, ov_i s), (4, ov_i w), (5, ov_i v5), (6, ov_i x6), (7, ov_i x7), (8, ov_i x8), (9, ov_i 0)]) (st2 := []) (pc2 := 66) b_113_64_1 rfl rfl ?_
              exact go 0 (Or.inl rfl) ov.1 ov.2
    exact L1 14 c s 0 h4 I5 E4 G4 e4 hV.1 (by omega) (by omega)
  · skip
    refine ov_blk (ls2 := [(0, ov_r 46), (1, ov_r 70), (2, ov_i c), (3, ov_i s), (4, ov_i w), (5, ov_i v5)]) (st2 := [ov_i (-2)]) (pc2 := 17) b_113_15_1 rfl rfl ?_
    exact ov_reti (st := []) d_113_17 rfl (fin _ _ (by omega) I5 E4 G4)

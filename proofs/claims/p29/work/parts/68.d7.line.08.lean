abbrev P_fMo_begins_90 (F : ov_H × ov_Z) (z : ov_Z) (h : ov_H) : Option ov_V → ov_Z → ov_H → Prop := fun r0 z' h' => r0 = none ∧ ov_N F z' h' ∧ (∀ a : Int, a ≠ 90 ∧ a ≠ 100 ∧ (a < 103 ∨ 104 < a) → h' a = h a) ∧ ((h' 90 20) = 0 ∧ (h' 100 0) = 0) ∧ (∀ j : Int, 0 ≤ j → j < 4 → (h' 104) j = 0) ∧ (∀ j : Int, 0 ≤ j → j < 120 → (h' 103) j = 0) ∧ (∀ k : Int, k ≠ 20 → k ≠ 22 → (h' 90) k = (h 90) k)
set_option maxHeartbeats 4000000 in
theorem c_fMo_begins_90 {u : ov_U} {F : ov_H × ov_Z} {z : ov_Z} {h : ov_H} (d : Nat) (hd : 0 ≤ d) (U : ov_cap u) (I : ov_N F z h) (p0 : 0 ≤ ov_bd F) : ov_T u d ov_m204 [ov_r 90] z h (P_fMo_begins_90 F z h) := by
  refine ov_en rfl (Nat.le_of_ble_eq_true rfl) ?_
  show ov_R u d ov_m204 0 [(0, ov_r 90)] [] z h (P_fMo_begins_90 F z h)
  refine ov_blk (ls2 := [(0, ov_r 90), (1, ov_i 0)]) (st2 := []) (pc2 := 2) b_204_0_2 rfl rfl ?_
  have L4 : ∀ (n1 : Nat) (x1 : Int) (z5 : ov_Z) (h6 : ov_H) (I7 : ov_N F z5 h6) (E8 : h6 104 = h 104) (fr9 : ∀ a : Int, a ≠ 90 ∧ a ≠ 100 ∧ (a < 103 ∨ 104 < a) → h6 a = h a) (xs : ∀ j : Int, 0 ≤ j → j < x1 → (h6 103) j = 0) (rkl90 : ∀ k : Int, k ≠ 20 → k ≠ 22 → (h6 90) k = h 90 k) (q3 : 0 ≤ x1 ∧ x1 ≤ 120), 120 - x1 < (n1 : Int) → ov_R u d ov_m204 2 [(0, ov_r 90), (1, ov_i x1)] [] z5 h6 (P_fMo_begins_90 F z h) := by
    intro n1
    induction n1 with
    | zero =>
      intro x1 z5 h6 I7 E8 fr9 xs rkl90 q3 hn10
      exact absurd hn10 (by omega)
    | succ n1 ih2 =>
      intro x1 z5 h6 I7 E8 fr9 xs rkl90 q3 hn10
      refine ov_blk (ls2 := [(0, ov_r 90), (1, ov_i x1)]) (st2 := [ov_i 120, ov_i x1]) (pc2 := 5) b_204_2_2 rfl rfl ?_
      refine ov_icge (tgt := 21) d_204_5 (by decide) (by omega) (by omega) (fun c11 => ?_) (fun c11 => ?_)
      · skip
        refine ov_blk (ls2 := [(0, ov_r 90), (1, ov_i x1)]) (st2 := [ov_r 90]) (pc2 := 22) b_204_21_1 rfl rfl ?_
        refine ov_getf (v := ov_r 100) d_204_22 fl_Mo_93 (zb_90 I7) (zs_90 I7) (congrArg ov_r (rg_90_16 I7)) ?_
        refine ov_blk (ls2 := [(0, ov_r 90), (1, ov_i x1)]) (st2 := [ov_i 0, ov_i 0, ov_r 100]) (pc2 := 27) b_204_25_2 rfl rfl ?_
        refine ov_iast d_204_27 (zb_100 I7) (zs_100 I7) (by omega) ?_
        have I12 := ua_100 (k := 0) (x := 0) I7 (by refine ⟨?_, ?_, ?_, ?_⟩ <;> omega)
        refine ov_blk (ls2 := [(0, ov_r 90), (1, ov_i x1)]) (st2 := [ov_i 0, ov_r 90]) (pc2 := 30) b_204_28_2 rfl rfl ?_
        refine ov_putf (x := 0) d_204_30 fl_Mo_319 (zb_90 I12) (zs_90 I12) rfl nk_0 rfl ?_
        have I13 := up_90_20 (x := 0) I12 (by omega)
        show ov_R u d ov_m204 33 [(0, ov_r 90), (1, ov_i x1)] [] z5 (ov_up (ov_up h6 100 0 0) 90 20 0) (P_fMo_begins_90 F z h)
        refine ov_blk (ls2 := [(0, ov_r 90), (1, ov_i x1)]) (st2 := [ov_r 90, ov_r 90]) (pc2 := 35) b_204_33_2 rfl rfl ?_
        refine ov_getf (v := ov_i (h6 90 22)) d_204_35 fl_Mo_322 (zb_90 I13) (zs_90 I13) rfl ?_
        have g14 := rg_90_22 I7
        refine ov_blk (ls2 := [(0, ov_r 90), (1, ov_i x1)]) (st2 := [ov_i ((h6 90 22) + 1), ov_r 90]) (pc2 := 40) b_204_38_2 rfl rfl ?_
        refine ov_nrm ?_
        have g15 := ov_wg ((h6 90 22) + 1)
        refine ov_putf (x := (ov_w ((h6 90 22) + 1))) d_204_40 fl_Mo_322 (zb_90 I13) (zs_90 I13) rfl nk_0 rfl ?_
        have I16 := up_90_22 (x := (ov_w ((h6 90 22) + 1))) I13 (by omega)
        show ov_R u d ov_m204 43 [(0, ov_r 90), (1, ov_i x1)] [] z5 (ov_up (ov_up (ov_up h6 100 0 0) 90 20 0) 90 22 (ov_w ((h6 90 22) + 1))) (P_fMo_begins_90 F z h)
        refine ov_blk (ls2 := [(0, ov_r 90), (1, ov_i 0)]) (st2 := []) (pc2 := 45) b_204_43_2 rfl rfl ?_
        have L20 : ∀ (n17 : Nat) (x1_ : Int) (z21 : ov_Z) (h22 : ov_H) (I23 : ov_N F z21 h22) (E24 : h22 103 = h6 103) (fr25 : ∀ a : Int, a ≠ 90 ∧ a ≠ 100 ∧ (a < 103 ∨ 104 < a) → h22 a = h a) (xj : ∀ j : Int, 0 ≤ j → j < x1_ → (h22 104) j = 0) (rkl90 : ∀ k : Int, k ≠ 20 → k ≠ 22 → (h22 90) k = h 90 k) (q19 : 0 ≤ x1_ ∧ x1_ ≤ 4 ∧ (h22 90 20) = 0 ∧ (h22 100 0) = 0), 4 - x1_ < (n17 : Int) → ov_R u d ov_m204 45 [(0, ov_r 90), (1, ov_i x1_)] [] z21 h22 (P_fMo_begins_90 F z h) := by
          intro n17
          induction n17 with
          | zero =>
            intro x1_ z21 h22 I23 E24 fr25 xj rkl90 q19 hn26
            exact absurd hn26 (by omega)
          | succ n17 ih18 =>
            intro x1_ z21 h22 I23 E24 fr25 xj rkl90 q19 hn26
            refine ov_blk (ls2 := [(0, ov_r 90), (1, ov_i x1_)]) (st2 := [ov_i 4, ov_i x1_]) (pc2 := 47) b_204_45_2 rfl rfl ?_
            refine ov_icge (tgt := 63) d_204_47 (by decide) (by omega) (by omega) (fun c27 => ?_) (fun c27 => ?_)
            · skip
              exact ov_retv (st := []) d_204_63 rfl ⟨rfl, I23, (fun a ca => (fr25 a ca)), (by show (h22 90 20) = 0 ∧ (h22 100 0) = 0; omega), (fun j h0 h1 => xj j h0 (by omega)), (fun j h0 h1 => by rw [show h22 103 = h6 103 from E24]; exact xs j h0 (by omega)), (fun k n0 n1 => (rkl90 k n0 n1))⟩
            · skip
              refine ov_blk (ls2 := [(0, ov_r 90), (1, ov_i x1_)]) (st2 := [ov_r 90]) (pc2 := 51) b_204_50_1 rfl rfl ?_
              refine ov_getf (v := ov_r 104) d_204_51 fl_Mo_105 (zb_90 I23) (zs_90 I23) (congrArg ov_r (rg_90_21 I23)) ?_
              refine ov_blk (ls2 := [(0, ov_r 90), (1, ov_i x1_)]) (st2 := [ov_i 0, ov_i x1_, ov_r 104]) (pc2 := 56) b_204_54_2 rfl rfl ?_
              refine ov_zast d_204_56 (zb_104 I23) (zs_104 I23) (by omega) (by omega) ?_
              have I28 := ua_104 (k := x1_) (x := 0) I23 (by omega)
              refine ov_blk (ls2 := [(0, ov_r 90), (1, ov_i (x1_ + 1))]) (st2 := []) (pc2 := 60) b_204_57_1 rfl rfl ?_
              refine ov_goto (tgt := 45) d_204_60 (by decide) ?_
              exact ih18 (x1_ + 1) _ _ I28 E24 (fun a ca => Eq.trans (by show (ov_up h22 104 x1_ 0) a = h22 a; rw [ov_up_ne (by omega)]) (fr25 a ca)) (fun j h0 h1 => if e : j = x1_ then (by rw [e]; show ov_up _ 104 _ _ 104 _ = _; rw [ov_up_row, ov_rs_eq]) else (by show ov_up _ 104 _ _ 104 j = _; rw [ov_up_row, ov_rs_ne e]; exact xj j h0 (by omega))) (fun k n0 n1 => (Eq.trans (by show (ov_up h22 104 x1_ 0) 90 k = h22 90 k; rw [ov_up_ne (by decide)]) (rkl90 k n0 n1))) (by show 0 ≤ (x1_ + 1) ∧ (x1_ + 1) ≤ 4 ∧ (h22 90 20) = 0 ∧ (h22 100 0) = 0; omega) (by omega)
        exact L20 5 0 _ _ I16 rfl (fun a ca => Eq.trans (by show (ov_up (ov_up (ov_up h6 100 0 0) 90 20 0) 90 22 (ov_w ((h6 90 22) + 1))) a = h6 a; rw [ov_up_ne (by omega), ov_up_ne (by omega), ov_up_ne (by omega)]) (fr9 a ca)) (fun j a b => by omega) (fun k n0 n1 => (Eq.trans (by show (ov_up (ov_up (ov_up h6 100 0 0) 90 20 0) 90 22 (ov_w ((h6 90 22) + 1))) 90 k = h6 90 k; rw [ov_up_j n1, ov_up_j n0, ov_up_ne (by decide)]) (rkl90 k n0 n1))) (by show 0 ≤ 0 ∧ 0 ≤ 4 ∧ 0 = 0 ∧ 0 = 0; omega) (by omega)
      · skip
        refine ov_blk (ls2 := [(0, ov_r 90), (1, ov_i x1)]) (st2 := [ov_r 90]) (pc2 := 9) b_204_8_1 rfl rfl ?_
        refine ov_getf (v := ov_r 103) d_204_9 fl_Mo_102 (zb_90 I7) (zs_90 I7) (congrArg ov_r (rg_90_19 I7)) ?_
        refine ov_blk (ls2 := [(0, ov_r 90), (1, ov_i x1)]) (st2 := [ov_i 0, ov_i x1, ov_r 103]) (pc2 := 14) b_204_12_2 rfl rfl ?_
        refine ov_iast d_204_14 (zb_103 I7) (zs_103 I7) (by omega) ?_
        have I29 := ua_103 (k := x1) (x := 0) I7 (by refine ⟨?_, ?_, ?_, ?_, ?_, ?_⟩ <;> omega)
        refine ov_blk (ls2 := [(0, ov_r 90), (1, ov_i (x1 + 1))]) (st2 := []) (pc2 := 18) b_204_15_1 rfl rfl ?_
        refine ov_goto (tgt := 2) d_204_18 (by decide) ?_
        exact ih2 (x1 + 1) _ _ I29 E8 (fun a ca => Eq.trans (by show (ov_up h6 103 x1 0) a = h6 a; rw [ov_up_ne (by omega)]) (fr9 a ca)) (fun j h0 h1 => if e : j = x1 then (by rw [e]; show ov_up _ 103 _ _ 103 _ = _; rw [ov_up_row, ov_rs_eq]) else (by show ov_up _ 103 _ _ 103 j = _; rw [ov_up_row, ov_rs_ne (by omega)]; exact xs j h0 (by omega))) (fun k n0 n1 => (Eq.trans (by show (ov_up h6 103 x1 0) 90 k = h6 90 k; rw [ov_up_ne (by decide)]) (rkl90 k n0 n1))) (by show 0 ≤ (x1 + 1) ∧ (x1 + 1) ≤ 120; omega) (by omega)
  exact L4 121 0 _ _ I rfl (fun a ca => rfl) (fun j a b => by omega) (fun k n0 n1 => rfl) (by show 0 ≤ 0 ∧ 0 ≤ 120; omega) (by omega)

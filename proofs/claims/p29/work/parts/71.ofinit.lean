/-! the class is made: its town at first -/
abbrev Py_fArrays_fill_AIIV_59 (F : ov_H × ov_Z) (z : ov_Z) (h : ov_H) (v : Int) : Option ov_V → ov_Z → ov_H → Prop := fun r0 z' h' => r0 = none ∧ ov_Y F z' h' ∧ (∀ a : Int, a ≠ 59 → h' a = h a) ∧ (∀ k : Int, 0 ≤ k → k < 54 → (h' 59) k = v)
set_option maxHeartbeats 4000000 in
theorem cy_fArrays_fill_AIIV_59 {u : ov_U} {F : ov_H × ov_Z} {z : ov_Z} {h : ov_H} (d : Nat) (hd : 0 ≤ d) (U : ov_cap u) (I : ov_Y F z h) (v : Int) (g_v : ov_g v) (p0 : -1 ≤ v ∧ v ≤ 3) : ov_T u d ov_m14 [ov_r 59, ov_i v] z h (Py_fArrays_fill_AIIV_59 F z h v) := by
  refine ov_en rfl (Nat.le_of_ble_eq_true rfl) ?_
  show ov_R u d ov_m14 0 [(0, ov_r 59), (1, ov_i v)] [] z h (Py_fArrays_fill_AIIV_59 F z h v)
  refine ov_blk (ls2 := [(0, ov_r 59), (1, ov_i v), (2, ov_i 0)]) (st2 := [ov_r 59]) (pc2 := 3) b_14_0_3 rfl rfl ?_
  refine ov_alen d_14_3 (yb_59 I) (ys_59 I) (by decide) ?_
  show ov_R u d ov_m14 4 [(0, ov_r 59), (1, ov_i v), (2, ov_i 0)] [ov_i 54] z h (Py_fArrays_fill_AIIV_59 F z h v)
  refine ov_blk (ls2 := [(0, ov_r 59), (1, ov_i v), (2, ov_i 0), (3, ov_i 54)]) (st2 := []) (pc2 := 5) b_14_4_1 rfl rfl ?_
  have L4 : ∀ (n1 : Nat) (x2 : Int) (z5 : ov_Z) (h6 : ov_H) (I7 : ov_Y F z5 h6) (fr8 : ∀ a : Int, a ≠ 59 → h6 a = h a) (xj : ∀ j : Int, 0 ≤ j → j < x2 → (h6 59) j = v) (q3 : 0 ≤ x2 ∧ x2 ≤ 54), 54 - x2 < (n1 : Int) → ov_R u d ov_m14 5 [(0, ov_r 59), (1, ov_i v), (2, ov_i x2), (3, ov_i 54)] [] z5 h6 (Py_fArrays_fill_AIIV_59 F z h v) := by
    intro n1
    induction n1 with
    | zero =>
      intro x2 z5 h6 I7 fr8 xj q3 hn9
      exact absurd hn9 (by omega)
    | succ n1 ih2 =>
      intro x2 z5 h6 I7 fr8 xj q3 hn9
      refine ov_blk (ls2 := [(0, ov_r 59), (1, ov_i v), (2, ov_i x2), (3, ov_i 54)]) (st2 := [ov_i 54, ov_i x2]) (pc2 := 7) b_14_5_2 rfl rfl ?_
      refine ov_icge (tgt := 20) d_14_7 (by decide) (by omega) (by omega) (fun c10 => ?_) (fun c10 => ?_)
      · skip
        exact ov_retv (st := []) d_14_20 rfl ⟨rfl, I7, (fun a ca => (fr8 a ca)), (fun k a b => xj k a (by omega))⟩
      · skip
        refine ov_blk (ls2 := [(0, ov_r 59), (1, ov_i v), (2, ov_i x2), (3, ov_i 54)]) (st2 := [ov_i v, ov_i x2, ov_r 59]) (pc2 := 13) b_14_10_3 rfl rfl ?_
        refine ov_iast d_14_13 (yb_59 I7) (ys_59 I7) (by omega) ?_
        have I11 := yu_59 (k := x2) (x := v) I7 (by omega)
        refine ov_blk (ls2 := [(0, ov_r 59), (1, ov_i v), (2, ov_i (x2 + 1)), (3, ov_i 54)]) (st2 := []) (pc2 := 17) b_14_14_1 rfl rfl ?_
        refine ov_goto (tgt := 5) d_14_17 (by decide) ?_
        exact ih2 (x2 + 1) _ _ I11 (fun a ca => Eq.trans (by show (ov_up h6 59 x2 v) a = h6 a; rw [ov_up_ne (by omega)]) (fr8 a ca)) (fun j a b => if e : j = x2 then (by rw [e]; show ov_up _ 59 _ _ 59 _ = _; rw [ov_up_row, ov_rs_eq]) else (by show ov_up _ 59 _ _ 59 j = _; rw [ov_up_row, ov_rs_ne e]; exact xj j a (by omega))) (by show 0 ≤ (x2 + 1) ∧ (x2 + 1) ≤ 54; omega) (by omega)
  exact L4 55 0 _ _ I (fun a ca => rfl) (fun j a b => by omega) (by show 0 ≤ 0 ∧ 0 ≤ 54; omega) (by omega)
abbrev Py_fArrays_fill_AIIV_63 (F : ov_H × ov_Z) (z : ov_Z) (h : ov_H) (v : Int) : Option ov_V → ov_Z → ov_H → Prop := fun r0 z' h' => r0 = none ∧ ov_Y F z' h' ∧ (∀ a : Int, a ≠ 63 → h' a = h a) ∧ (∀ k : Int, 0 ≤ k → k < 54 → (h' 63) k = v)
set_option maxHeartbeats 4000000 in
theorem cy_fArrays_fill_AIIV_63 {u : ov_U} {F : ov_H × ov_Z} {z : ov_Z} {h : ov_H} (d : Nat) (hd : 0 ≤ d) (U : ov_cap u) (I : ov_Y F z h) (v : Int) (g_v : ov_g v) (p0 : -1 ≤ v ∧ v ≤ 3) : ov_T u d ov_m14 [ov_r 63, ov_i v] z h (Py_fArrays_fill_AIIV_63 F z h v) := by
  refine ov_en rfl (Nat.le_of_ble_eq_true rfl) ?_
  show ov_R u d ov_m14 0 [(0, ov_r 63), (1, ov_i v)] [] z h (Py_fArrays_fill_AIIV_63 F z h v)
  refine ov_blk (ls2 := [(0, ov_r 63), (1, ov_i v), (2, ov_i 0)]) (st2 := [ov_r 63]) (pc2 := 3) b_14_0_3 rfl rfl ?_
  refine ov_alen d_14_3 (yb_63 I) (ys_63 I) (by decide) ?_
  show ov_R u d ov_m14 4 [(0, ov_r 63), (1, ov_i v), (2, ov_i 0)] [ov_i 54] z h (Py_fArrays_fill_AIIV_63 F z h v)
  refine ov_blk (ls2 := [(0, ov_r 63), (1, ov_i v), (2, ov_i 0), (3, ov_i 54)]) (st2 := []) (pc2 := 5) b_14_4_1 rfl rfl ?_
  have L4 : ∀ (n1 : Nat) (x2 : Int) (z5 : ov_Z) (h6 : ov_H) (I7 : ov_Y F z5 h6) (fr8 : ∀ a : Int, a ≠ 63 → h6 a = h a) (xj : ∀ j : Int, 0 ≤ j → j < x2 → (h6 63) j = v) (q3 : 0 ≤ x2 ∧ x2 ≤ 54), 54 - x2 < (n1 : Int) → ov_R u d ov_m14 5 [(0, ov_r 63), (1, ov_i v), (2, ov_i x2), (3, ov_i 54)] [] z5 h6 (Py_fArrays_fill_AIIV_63 F z h v) := by
    intro n1
    induction n1 with
    | zero =>
      intro x2 z5 h6 I7 fr8 xj q3 hn9
      exact absurd hn9 (by omega)
    | succ n1 ih2 =>
      intro x2 z5 h6 I7 fr8 xj q3 hn9
      refine ov_blk (ls2 := [(0, ov_r 63), (1, ov_i v), (2, ov_i x2), (3, ov_i 54)]) (st2 := [ov_i 54, ov_i x2]) (pc2 := 7) b_14_5_2 rfl rfl ?_
      refine ov_icge (tgt := 20) d_14_7 (by decide) (by omega) (by omega) (fun c10 => ?_) (fun c10 => ?_)
      · skip
        exact ov_retv (st := []) d_14_20 rfl ⟨rfl, I7, (fun a ca => (fr8 a ca)), (fun k a b => xj k a (by omega))⟩
      · skip
        refine ov_blk (ls2 := [(0, ov_r 63), (1, ov_i v), (2, ov_i x2), (3, ov_i 54)]) (st2 := [ov_i v, ov_i x2, ov_r 63]) (pc2 := 13) b_14_10_3 rfl rfl ?_
        refine ov_iast d_14_13 (yb_63 I7) (ys_63 I7) (by omega) ?_
        have I11 := yu_63 (k := x2) (x := v) I7 (by omega)
        refine ov_blk (ls2 := [(0, ov_r 63), (1, ov_i v), (2, ov_i (x2 + 1)), (3, ov_i 54)]) (st2 := []) (pc2 := 17) b_14_14_1 rfl rfl ?_
        refine ov_goto (tgt := 5) d_14_17 (by decide) ?_
        exact ih2 (x2 + 1) _ _ I11 (fun a ca => Eq.trans (by show (ov_up h6 63 x2 v) a = h6 a; rw [ov_up_ne (by omega)]) (fr8 a ca)) (fun j a b => if e : j = x2 then (by rw [e]; show ov_up _ 63 _ _ 63 _ = _; rw [ov_up_row, ov_rs_eq]) else (by show ov_up _ 63 _ _ 63 j = _; rw [ov_up_row, ov_rs_ne e]; exact xj j a (by omega))) (by show 0 ≤ (x2 + 1) ∧ (x2 + 1) ≤ 54; omega) (by omega)
  exact L4 55 0 _ _ I (fun a ca => rfl) (fun j a b => by omega) (by show 0 ≤ 0 ∧ 0 ≤ 54; omega) (by omega)
abbrev Py_fArrays_fill_AIIV_64 (F : ov_H × ov_Z) (z : ov_Z) (h : ov_H) (v : Int) : Option ov_V → ov_Z → ov_H → Prop := fun r0 z' h' => r0 = none ∧ ov_Y F z' h' ∧ (∀ a : Int, a ≠ 64 → h' a = h a) ∧ (∀ k : Int, 0 ≤ k → k < 4 → (h' 64) k = v)
set_option maxHeartbeats 4000000 in
theorem cy_fArrays_fill_AIIV_64 {u : ov_U} {F : ov_H × ov_Z} {z : ov_Z} {h : ov_H} (d : Nat) (hd : 0 ≤ d) (U : ov_cap u) (I : ov_Y F z h) (v : Int) (g_v : ov_g v) (p0 : -1 ≤ v ∧ v ≤ 3) : ov_T u d ov_m14 [ov_r 64, ov_i v] z h (Py_fArrays_fill_AIIV_64 F z h v) := by
  refine ov_en rfl (Nat.le_of_ble_eq_true rfl) ?_
  show ov_R u d ov_m14 0 [(0, ov_r 64), (1, ov_i v)] [] z h (Py_fArrays_fill_AIIV_64 F z h v)
  refine ov_blk (ls2 := [(0, ov_r 64), (1, ov_i v), (2, ov_i 0)]) (st2 := [ov_r 64]) (pc2 := 3) b_14_0_3 rfl rfl ?_
  refine ov_alen d_14_3 (yb_64 I) (ys_64 I) (by decide) ?_
  show ov_R u d ov_m14 4 [(0, ov_r 64), (1, ov_i v), (2, ov_i 0)] [ov_i 4] z h (Py_fArrays_fill_AIIV_64 F z h v)
  refine ov_blk (ls2 := [(0, ov_r 64), (1, ov_i v), (2, ov_i 0), (3, ov_i 4)]) (st2 := []) (pc2 := 5) b_14_4_1 rfl rfl ?_
  have L4 : ∀ (n1 : Nat) (x2 : Int) (z5 : ov_Z) (h6 : ov_H) (I7 : ov_Y F z5 h6) (fr8 : ∀ a : Int, a ≠ 64 → h6 a = h a) (xj : ∀ j : Int, 0 ≤ j → j < x2 → (h6 64) j = v) (q3 : 0 ≤ x2 ∧ x2 ≤ 4), 4 - x2 < (n1 : Int) → ov_R u d ov_m14 5 [(0, ov_r 64), (1, ov_i v), (2, ov_i x2), (3, ov_i 4)] [] z5 h6 (Py_fArrays_fill_AIIV_64 F z h v) := by
    intro n1
    induction n1 with
    | zero =>
      intro x2 z5 h6 I7 fr8 xj q3 hn9
      exact absurd hn9 (by omega)
    | succ n1 ih2 =>
      intro x2 z5 h6 I7 fr8 xj q3 hn9
      refine ov_blk (ls2 := [(0, ov_r 64), (1, ov_i v), (2, ov_i x2), (3, ov_i 4)]) (st2 := [ov_i 4, ov_i x2]) (pc2 := 7) b_14_5_2 rfl rfl ?_
      refine ov_icge (tgt := 20) d_14_7 (by decide) (by omega) (by omega) (fun c10 => ?_) (fun c10 => ?_)
      · skip
        exact ov_retv (st := []) d_14_20 rfl ⟨rfl, I7, (fun a ca => (fr8 a ca)), (fun k a b => xj k a (by omega))⟩
      · skip
        refine ov_blk (ls2 := [(0, ov_r 64), (1, ov_i v), (2, ov_i x2), (3, ov_i 4)]) (st2 := [ov_i v, ov_i x2, ov_r 64]) (pc2 := 13) b_14_10_3 rfl rfl ?_
        refine ov_iast d_14_13 (yb_64 I7) (ys_64 I7) (by omega) ?_
        have I11 := yu_64 (k := x2) (x := v) I7 (by omega)
        refine ov_blk (ls2 := [(0, ov_r 64), (1, ov_i v), (2, ov_i (x2 + 1)), (3, ov_i 4)]) (st2 := []) (pc2 := 17) b_14_14_1 rfl rfl ?_
        refine ov_goto (tgt := 5) d_14_17 (by decide) ?_
        exact ih2 (x2 + 1) _ _ I11 (fun a ca => Eq.trans (by show (ov_up h6 64 x2 v) a = h6 a; rw [ov_up_ne (by omega)]) (fr8 a ca)) (fun j a b => if e : j = x2 then (by rw [e]; show ov_up _ 64 _ _ 64 _ = _; rw [ov_up_row, ov_rs_eq]) else (by show ov_up _ 64 _ _ 64 j = _; rw [ov_up_row, ov_rs_ne e]; exact xj j a (by omega))) (by show 0 ≤ (x2 + 1) ∧ (x2 + 1) ≤ 4; omega) (by omega)
  exact L4 5 0 _ _ I (fun a ca => rfl) (fun j a b => by omega) (by show 0 ≤ 0 ∧ 0 ≤ 4; omega) (by omega)
abbrev Py_fTown_clear_58 (F : ov_H × ov_Z) (z : ov_Z) (h : ov_H) : Option ov_V → ov_Z → ov_H → Prop := fun r0 z' h' => r0 = none ∧ ov_Y F z' h' ∧ (∀ a : Int, (a < 58 ∨ 59 < a) ∧ (a < 63 ∨ 64 < a) → h' a = h a) ∧ ((h' 58 0) = 1 ∧ (h' 58 1) = 1 ∧ (h' 58 8) = 0 ∧ (h' 58 9) = 0 ∧ (h' 58 10) = 1 ∧ (h' 58 11) = 0) ∧ (∀ k : Int, 0 ≤ k → k < 54 → (h' 59) k = -1) ∧ (∀ k : Int, 0 ≤ k → k < 54 → (h' 63) k = 0) ∧ (∀ k : Int, 0 ≤ k → k < 4 → (h' 64) k = -1)
set_option maxHeartbeats 4000000 in
theorem cy_fTown_clear_58 {u : ov_U} {F : ov_H × ov_Z} {z : ov_Z} {h : ov_H} (d : Nat) (hd : 1 ≤ d) (U : ov_cap u) (I : ov_Y F z h) : ov_T u d ov_m13 [ov_r 58] z h (Py_fTown_clear_58 F z h) := by
  refine ov_en rfl (Nat.le_of_ble_eq_true rfl) ?_
  show ov_R u d ov_m13 0 [(0, ov_r 58)] [] z h (Py_fTown_clear_58 F z h)
  refine ov_blk (ls2 := [(0, ov_r 58)]) (st2 := [ov_i 1, ov_r 58]) (pc2 := 2) b_13_0_2 rfl rfl ?_
  refine ov_putf (x := 1) d_13_2 fl_Town_46 (yb_58 I) (ys_58 I) rfl nk_0 rfl ?_
  have I1 := yp_58_0 (x := 1) I (by omega)
  show ov_R u d ov_m13 5 [(0, ov_r 58)] [] z (ov_up h 58 0 1) (Py_fTown_clear_58 F z h)
  refine ov_blk (ls2 := [(0, ov_r 58)]) (st2 := [ov_i 1, ov_r 58]) (pc2 := 7) b_13_5_2 rfl rfl ?_
  refine ov_putf (x := 1) d_13_7 fl_Town_50 (yb_58 I1) (ys_58 I1) rfl nk_0 rfl ?_
  have I2 := yp_58_1 (x := 1) I1 (by omega)
  show ov_R u d ov_m13 10 [(0, ov_r 58)] [] z (ov_up (ov_up h 58 0 1) 58 1 1) (Py_fTown_clear_58 F z h)
  refine ov_blk (ls2 := [(0, ov_r 58)]) (st2 := [ov_r 58]) (pc2 := 11) b_13_10_1 rfl rfl ?_
  refine ov_getf (v := ov_r 59) d_13_11 fl_Town_9 (yb_58 I2) (ys_58 I2) (congrArg ov_r (yg_58_2 I2)) ?_
  refine ov_blk (ls2 := [(0, ov_r 58)]) (st2 := [ov_i (-1), ov_r 59]) (pc2 := 15) b_13_14_1 rfl rfl ?_
  refine ov_cS (as := [ov_r 59, ov_i (-1)]) (st := []) (d2 := d - 1) d_13_15 lk_Town_53 rfl (Nat.le_of_ble_eq_true rfl) (by omega) (cy_fArrays_fill_AIIV_59 (d - 1) (by omega) U I2 (-1) (by omega) (by show -1 ≤ ((-1) : Int) ∧ ((-1) : Int) ≤ 3; omega)) ?_
  rintro _ z3 h4 ⟨rfl, I5, y6, y7⟩
  have R9 : h4 58 = (ov_rs (ov_rs (h 58) 0 1) 1 1) := Eq.trans (y6 58 (by decide)) (Eq.trans (ov_up_row (ov_up h 58 0 1) 58 1 1) (congrArg (fun f => ov_rs f 1 1) (Eq.trans (ov_up_row h 58 0 1) (congrArg (fun f => ov_rs f 0 1) rfl))))
  have E10 : h4 63 = h 63 := Eq.trans (y6 63 (by decide)) (show (ov_up (ov_up h 58 0 1) 58 1 1) 63 = h 63 from rfl)
  have E11 : h4 64 = h 64 := Eq.trans (y6 64 (by decide)) (show (ov_up (ov_up h 58 0 1) 58 1 1) 64 = h 64 from rfl)
  have fr12 : ∀ a : Int, (a < 58 ∨ 59 < a) ∧ (a < 63 ∨ 64 < a) → h4 a = h a := fun a ca => Eq.trans (y6 a (by omega)) (Eq.trans (by show (ov_up (ov_up h 58 0 1) 58 1 1) a = h a; rw [ov_up_ne (by omega), ov_up_ne (by omega)]) rfl)
  have y7_ : ∀ k : Int, 0 ≤ k → k < 54 → (h4 59) k = ((-1) : Int) := y7
  show ov_R u d ov_m13 18 [(0, ov_r 58)] [] z3 h4 (Py_fTown_clear_58 F z h)
  refine ov_blk (ls2 := [(0, ov_r 58)]) (st2 := [ov_r 58]) (pc2 := 19) b_13_18_1 rfl rfl ?_
  refine ov_getf (v := ov_r 63) d_13_19 fl_Town_24 (yb_58 I5) (ys_58 I5) (congrArg ov_r (yg_58_6 I5)) ?_
  refine ov_blk (ls2 := [(0, ov_r 58)]) (st2 := [ov_i 0, ov_r 63]) (pc2 := 23) b_13_22_1 rfl rfl ?_
  refine ov_cS (as := [ov_r 63, ov_i 0]) (st := []) (d2 := d - 1) d_13_23 lk_Town_53 rfl (Nat.le_of_ble_eq_true rfl) (by omega) (cy_fArrays_fill_AIIV_63 (d - 1) (by omega) U I5 0 (by omega) (by show -1 ≤ (0 : Int) ∧ (0 : Int) ≤ 3; omega)) ?_
  rintro _ z13 h14 ⟨rfl, I15, y16, y17⟩
  have E18 : h14 58 = h4 58 := Eq.trans (y16 58 (by decide)) (show h4 58 = h4 58 from rfl)
  have E19 : h14 59 = h4 59 := Eq.trans (y16 59 (by decide)) (show h4 59 = h4 59 from rfl)
  have E20 : h14 64 = h 64 := Eq.trans (y16 64 (by decide)) (show h4 64 = h 64 from E11)
  have fr21 : ∀ a : Int, (a < 58 ∨ 59 < a) ∧ (a < 63 ∨ 64 < a) → h14 a = h a := fun a ca => Eq.trans (y16 a (by omega)) (fr12 a ca)
  have y17_ : ∀ k : Int, 0 ≤ k → k < 54 → (h14 63) k = (0 : Int) := y17
  show ov_R u d ov_m13 26 [(0, ov_r 58)] [] z13 h14 (Py_fTown_clear_58 F z h)
  refine ov_blk (ls2 := [(0, ov_r 58)]) (st2 := [ov_r 58]) (pc2 := 27) b_13_26_1 rfl rfl ?_
  refine ov_getf (v := ov_r 64) d_13_27 fl_Town_27 (yb_58 I15) (ys_58 I15) (congrArg ov_r (yg_58_7 I15)) ?_
  refine ov_blk (ls2 := [(0, ov_r 58)]) (st2 := [ov_i (-1), ov_r 64]) (pc2 := 31) b_13_30_1 rfl rfl ?_
  refine ov_cS (as := [ov_r 64, ov_i (-1)]) (st := []) (d2 := d - 1) d_13_31 lk_Town_53 rfl (Nat.le_of_ble_eq_true rfl) (by omega) (cy_fArrays_fill_AIIV_64 (d - 1) (by omega) U I15 (-1) (by omega) (by show -1 ≤ ((-1) : Int) ∧ ((-1) : Int) ≤ 3; omega)) ?_
  rintro _ z22 h23 ⟨rfl, I24, y25, y26⟩
  have E27 : h23 58 = h4 58 := Eq.trans (y25 58 (by decide)) (show h14 58 = h4 58 from E18)
  have E28 : h23 59 = h4 59 := Eq.trans (y25 59 (by decide)) (show h14 59 = h4 59 from E19)
  have E29 : h23 63 = h14 63 := Eq.trans (y25 63 (by decide)) (show h14 63 = h14 63 from rfl)
  have fr30 : ∀ a : Int, (a < 58 ∨ 59 < a) ∧ (a < 63 ∨ 64 < a) → h23 a = h a := fun a ca => Eq.trans (y25 a (by omega)) (fr21 a ca)
  have y26_ : ∀ k : Int, 0 ≤ k → k < 4 → (h23 64) k = ((-1) : Int) := y26
  show ov_R u d ov_m13 34 [(0, ov_r 58)] [] z22 h23 (Py_fTown_clear_58 F z h)
  refine ov_blk (ls2 := [(0, ov_r 58)]) (st2 := [ov_i 0, ov_r 58]) (pc2 := 36) b_13_34_2 rfl rfl ?_
  refine ov_putf (x := 0) d_13_36 fl_Town_59 (yb_58 I24) (ys_58 I24) rfl (nk_3 (by omega)) rfl ?_
  have I31 := yp_58_8 (x := 0) I24 (by omega)
  show ov_R u d ov_m13 39 [(0, ov_r 58)] [] z22 (ov_up h23 58 8 0) (Py_fTown_clear_58 F z h)
  refine ov_blk (ls2 := [(0, ov_r 58)]) (st2 := [ov_i 0, ov_r 58]) (pc2 := 41) b_13_39_2 rfl rfl ?_
  refine ov_putf (x := 0) d_13_41 fl_Town_63 (yb_58 I31) (ys_58 I31) rfl nk_0 rfl ?_
  have I32 := yp_58_9 (x := 0) I31 (by omega)
  show ov_R u d ov_m13 44 [(0, ov_r 58)] [] z22 (ov_up (ov_up h23 58 8 0) 58 9 0) (Py_fTown_clear_58 F z h)
  refine ov_blk (ls2 := [(0, ov_r 58)]) (st2 := [ov_i 1, ov_r 58]) (pc2 := 46) b_13_44_2 rfl rfl ?_
  refine ov_putf (x := 1) d_13_46 fl_Town_66 (yb_58 I32) (ys_58 I32) rfl nk_0 rfl ?_
  have I33 := yp_58_10 (x := 1) I32 (by omega)
  show ov_R u d ov_m13 49 [(0, ov_r 58)] [] z22 (ov_up (ov_up (ov_up h23 58 8 0) 58 9 0) 58 10 1) (Py_fTown_clear_58 F z h)
  refine ov_blk (ls2 := [(0, ov_r 58)]) (st2 := [ov_i 0, ov_r 58]) (pc2 := 51) b_13_49_2 rfl rfl ?_
  refine ov_putf (x := 0) d_13_51 fl_Town_69 (yb_58 I33) (ys_58 I33) rfl nk_0 rfl ?_
  have I34 := yp_58_11 (x := 0) I33 (by omega)
  show ov_R u d ov_m13 54 [(0, ov_r 58)] [] z22 (ov_up (ov_up (ov_up (ov_up h23 58 8 0) 58 9 0) 58 10 1) 58 11 0) (Py_fTown_clear_58 F z h)
  refine ov_blk (ls2 := [(0, ov_r 58)]) (st2 := [ov_i 0, ov_r 58]) (pc2 := 56) b_13_54_2 rfl rfl ?_
  refine ov_putf (x := 0) d_13_56 fl_Town_72 (yb_58 I34) (ys_58 I34) rfl nk_0 rfl ?_
  have I35 := yp_58_16 (x := 0) I34 (by omega)
  show ov_R u d ov_m13 59 [(0, ov_r 58)] [] z22 (ov_up (ov_up (ov_up (ov_up (ov_up h23 58 8 0) 58 9 0) 58 10 1) 58 11 0) 58 16 0) (Py_fTown_clear_58 F z h)
  have q36 : h23 58 0 = 1 := by rw [show h23 58 = (ov_rs (ov_rs (h 58) 0 1) 1 1) from (Eq.trans E27 R9), ov_rs_ne (by decide), ov_rs_eq]
  have q37 : h23 58 1 = 1 := by rw [show h23 58 = (ov_rs (ov_rs (h 58) 0 1) 1 1) from (Eq.trans E27 R9), ov_rs_eq]
  have q38 : h23 58 0 = 1 := by rw [show h23 58 = (ov_rs (ov_rs (h 58) 0 1) 1 1) from (Eq.trans E27 R9), ov_rs_ne (by decide), ov_rs_eq]
  have q39 : h23 58 1 = 1 := by rw [show h23 58 = (ov_rs (ov_rs (h 58) 0 1) 1 1) from (Eq.trans E27 R9), ov_rs_eq]
  exact ov_retv (st := []) d_13_59 rfl ⟨rfl, I35, (fun a ca => Eq.trans (by show (ov_up (ov_up (ov_up (ov_up (ov_up h23 58 8 0) 58 9 0) 58 10 1) 58 11 0) 58 16 0) a = h23 a; rw [ov_up_ne (by omega), ov_up_ne (by omega), ov_up_ne (by omega), ov_up_ne (by omega), ov_up_ne (by omega)]) (fr30 a ca)), (by show (h23 58 0) = 1 ∧ (h23 58 1) = 1 ∧ 0 = 0 ∧ 0 = 0 ∧ 1 = 1 ∧ 0 = 0; omega), (fun k a b => by rw [show (ov_up (ov_up (ov_up (ov_up (ov_up h23 58 8 0) 58 9 0) 58 10 1) 58 11 0) 58 16 0) 59 = h4 59 from E28]; exact y7_ k a b), (fun k a b => by rw [show (ov_up (ov_up (ov_up (ov_up (ov_up h23 58 8 0) 58 9 0) 58 10 1) 58 11 0) 58 16 0) 63 = h14 63 from E29]; exact y17_ k a b), (fun k a b => by rw [show (ov_up (ov_up (ov_up (ov_up (ov_up h23 58 8 0) 58 9 0) 58 10 1) 58 11 0) 58 16 0) 64 = h23 64 from rfl]; exact y26_ k a b)⟩
abbrev Py_Town_isBeyond_58_t (F : ov_H × ov_Z) (z : ov_Z) (h : ov_H) (c : Int) (way : Int) : Option ov_V → ov_Z → ov_H → Prop := fun r0 z' h' => ∃ r : Int, r0 = some (ov_i r) ∧ z = z' ∧ h = h' ∧ ((way = 0 ∧ (r = 0 ∧ c % 6 < (h 58 0) - 1 ∨ r = 1 ∧ (h 58 0) - 1 ≤ c % 6) ∨ ¬ way = 0 ∧ (r = 0 ∧ c / 6 < (h 58 1) - 1 ∨ r = 1 ∧ (h 58 1) - 1 ≤ c / 6)))
set_option maxHeartbeats 4000000 in
theorem cy_Town_isBeyond_58_t {u : ov_U} {F : ov_H × ov_Z} {z : ov_Z} {h : ov_H} (d : Nat) (hd : 0 ≤ d) (U : ov_cap u) (I : ov_Y F z h) (c : Int) (way : Int) (g_c : ov_g c) (g_way : ov_g way) (p0 : 0 ≤ c ∧ c ≤ 53) : ov_T u d ov_m18 [ov_r 58, ov_i c, ov_i way] z h (Py_Town_isBeyond_58_t F z h c way) := by
  refine ov_en rfl (Nat.le_of_ble_eq_true rfl) ?_
  show ov_R u d ov_m18 0 [(0, ov_r 58), (1, ov_i c), (2, ov_i way)] [] z h (Py_Town_isBeyond_58_t F z h c way)
  refine ov_blk (ls2 := [(0, ov_r 58), (1, ov_i c), (2, ov_i way)]) (st2 := [ov_i way]) (pc2 := 1) b_18_0_1 rfl rfl ?_
  refine ov_ifne (tgt := 25) d_18_1 (by decide) (by omega) (fun c1 => ?_) (fun c1 => ?_)
  · skip
    refine ov_blk (ls2 := [(0, ov_r 58), (1, ov_i c), (2, ov_i way)]) (st2 := [ov_i 6, ov_i c]) (pc2 := 28) b_18_25_2 rfl rfl ?_
    refine ov_idiv d_18_28 (by omega) (by omega) (by omega) ?_
    have g2 := ov_td (a := c) (b := 6) (by omega)
    refine ov_blk (ls2 := [(0, ov_r 58), (1, ov_i c), (2, ov_i way)]) (st2 := [ov_r 58, ov_i (Int.tdiv c 6)]) (pc2 := 30) b_18_29_1 rfl rfl ?_
    refine ov_getf (v := ov_i (h 58 1)) d_18_30 fl_Town_50 (yb_58 I) (ys_58 I) rfl ?_
    have g3 := yg_58_1 I
    refine ov_blk (ls2 := [(0, ov_r 58), (1, ov_i c), (2, ov_i way)]) (st2 := [ov_i ((h 58 1) - 1), ov_i (Int.tdiv c 6)]) (pc2 := 35) b_18_33_2 rfl rfl ?_
    refine ov_iclt (tgt := 42) d_18_35 (by decide) (by omega) (by omega) (fun c4 => ?_) (fun c4 => ?_)
    · skip
      refine ov_blk (ls2 := [(0, ov_r 58), (1, ov_i c), (2, ov_i way)]) (st2 := [ov_i 0]) (pc2 := 43) b_18_42_1 rfl rfl ?_
      exact ov_retz (st := []) d_18_43 rfl (by omega) ⟨_, rfl, rfl, rfl, (by show (way = 0 ∧ (0 = 0 ∧ c % 6 < (h 58 0) - 1 ∨ 0 = 1 ∧ (h 58 0) - 1 ≤ c % 6) ∨ ¬ way = 0 ∧ (0 = 0 ∧ c / 6 < (h 58 1) - 1 ∨ 0 = 1 ∧ (h 58 1) - 1 ≤ c / 6)); omega)⟩
    · skip
      refine ov_blk (ls2 := [(0, ov_r 58), (1, ov_i c), (2, ov_i way)]) (st2 := [ov_i 1]) (pc2 := 39) b_18_38_1 rfl rfl ?_
      refine ov_goto (tgt := 43) d_18_39 (by decide) ?_
      exact ov_retz (st := []) d_18_43 rfl (by omega) ⟨_, rfl, rfl, rfl, (by show (way = 0 ∧ (1 = 0 ∧ c % 6 < (h 58 0) - 1 ∨ 1 = 1 ∧ (h 58 0) - 1 ≤ c % 6) ∨ ¬ way = 0 ∧ (1 = 0 ∧ c / 6 < (h 58 1) - 1 ∨ 1 = 1 ∧ (h 58 1) - 1 ≤ c / 6)); omega)⟩
  · skip
    refine ov_blk (ls2 := [(0, ov_r 58), (1, ov_i c), (2, ov_i way)]) (st2 := [ov_i 6, ov_i c]) (pc2 := 7) b_18_4_2 rfl rfl ?_
    refine ov_irem d_18_7 (by omega) (by omega) (by omega) ?_
    have g5 := ov_tm (a := c) (b := 6) (by omega)
    have g6 := ov_tmg (a := c) (b := 6) (by omega) (by omega)
    refine ov_blk (ls2 := [(0, ov_r 58), (1, ov_i c), (2, ov_i way)]) (st2 := [ov_r 58, ov_i (Int.tmod c 6)]) (pc2 := 9) b_18_8_1 rfl rfl ?_
    refine ov_getf (v := ov_i (h 58 0)) d_18_9 fl_Town_46 (yb_58 I) (ys_58 I) rfl ?_
    have g7 := yg_58_0 I
    refine ov_blk (ls2 := [(0, ov_r 58), (1, ov_i c), (2, ov_i way)]) (st2 := [ov_i ((h 58 0) - 1), ov_i (Int.tmod c 6)]) (pc2 := 14) b_18_12_2 rfl rfl ?_
    refine ov_iclt (tgt := 21) d_18_14 (by decide) (by omega) (by omega) (fun c8 => ?_) (fun c8 => ?_)
    · skip
      refine ov_blk (ls2 := [(0, ov_r 58), (1, ov_i c), (2, ov_i way)]) (st2 := [ov_i 0]) (pc2 := 22) b_18_21_1 rfl rfl ?_
      refine ov_goto (tgt := 43) d_18_22 (by decide) ?_
      exact ov_retz (st := []) d_18_43 rfl (by omega) ⟨_, rfl, rfl, rfl, (by show (way = 0 ∧ (0 = 0 ∧ c % 6 < (h 58 0) - 1 ∨ 0 = 1 ∧ (h 58 0) - 1 ≤ c % 6) ∨ ¬ way = 0 ∧ (0 = 0 ∧ c / 6 < (h 58 1) - 1 ∨ 0 = 1 ∧ (h 58 1) - 1 ≤ c / 6)); omega)⟩
    · skip
      refine ov_blk (ls2 := [(0, ov_r 58), (1, ov_i c), (2, ov_i way)]) (st2 := [ov_i 1]) (pc2 := 18) b_18_17_1 rfl rfl ?_
      refine ov_goto (tgt := 43) d_18_18 (by decide) ?_
      exact ov_retz (st := []) d_18_43 rfl (by omega) ⟨_, rfl, rfl, rfl, (by show (way = 0 ∧ (1 = 0 ∧ c % 6 < (h 58 0) - 1 ∨ 1 = 1 ∧ (h 58 0) - 1 ≤ c % 6) ∨ ¬ way = 0 ∧ (1 = 0 ∧ c / 6 < (h 58 1) - 1 ∨ 1 = 1 ∧ (h 58 1) - 1 ≤ c / 6)); omega)⟩
abbrev Py_Town_isBarred_58_t (F : ov_H × ov_Z) (z : ov_Z) (h : ov_H) (c : Int) (way : Int) : Option ov_V → ov_Z → ov_H → Prop := fun r0 z' h' => ∃ r : Int, r0 = some (ov_i r) ∧ z = z' ∧ h = h' ∧ ((r = 0 ∧ ov_and (ov_shr (h 63 c) way) 1 = 0 ∨ r = 1 ∧ ¬ ov_and (ov_shr (h 63 c) way) 1 = 0))
set_option maxHeartbeats 4000000 in
theorem cy_Town_isBarred_58_t {u : ov_U} {F : ov_H × ov_Z} {z : ov_Z} {h : ov_H} (d : Nat) (hd : 0 ≤ d) (U : ov_cap u) (I : ov_Y F z h) (c : Int) (way : Int) (g_c : ov_g c) (g_way : ov_g way) (p0 : 0 ≤ c ∧ c ≤ 53) : ov_T u d ov_m19 [ov_r 58, ov_i c, ov_i way] z h (Py_Town_isBarred_58_t F z h c way) := by
  refine ov_en rfl (Nat.le_of_ble_eq_true rfl) ?_
  show ov_R u d ov_m19 0 [(0, ov_r 58), (1, ov_i c), (2, ov_i way)] [] z h (Py_Town_isBarred_58_t F z h c way)
  refine ov_blk (ls2 := [(0, ov_r 58), (1, ov_i c), (2, ov_i way)]) (st2 := [ov_r 58]) (pc2 := 1) b_19_0_1 rfl rfl ?_
  refine ov_getf (v := ov_r 63) d_19_1 fl_Town_24 (yb_58 I) (ys_58 I) (congrArg ov_r (yg_58_6 I)) ?_
  refine ov_blk (ls2 := [(0, ov_r 58), (1, ov_i c), (2, ov_i way)]) (st2 := [ov_i c, ov_r 63]) (pc2 := 5) b_19_4_1 rfl rfl ?_
  refine ov_iald d_19_5 (yb_63 I) (ys_63 I) (by omega) ?_
  have g1 := ya_63 I c
  refine ov_blk (ls2 := [(0, ov_r 58), (1, ov_i c), (2, ov_i way)]) (st2 := [ov_i (ov_and (ov_shr (h 63 c) way) 1)]) (pc2 := 10) b_19_6_4 rfl rfl ?_
  have g2 := ov_shrg (h 63 c) way
  have g3 := ov_andg (ov_shr (h 63 c) way) 1
  have g4 := ov_and1 (ov_shr (h 63 c) way)
  refine ov_ifeq (tgt := 17) d_19_10 (by decide) (by omega) (fun c5 => ?_) (fun c5 => ?_)
  · skip
    refine ov_blk (ls2 := [(0, ov_r 58), (1, ov_i c), (2, ov_i way)]) (st2 := [ov_i 0]) (pc2 := 18) b_19_17_1 rfl rfl ?_
    exact ov_retz (st := []) d_19_18 rfl (by omega) ⟨_, rfl, rfl, rfl, (by show (0 = 0 ∧ ov_and (ov_shr (h 63 c) way) 1 = 0 ∨ 0 = 1 ∧ ¬ ov_and (ov_shr (h 63 c) way) 1 = 0); omega)⟩
  · skip
    refine ov_blk (ls2 := [(0, ov_r 58), (1, ov_i c), (2, ov_i way)]) (st2 := [ov_i 1]) (pc2 := 14) b_19_13_1 rfl rfl ?_
    refine ov_goto (tgt := 18) d_19_14 (by decide) ?_
    exact ov_retz (st := []) d_19_18 rfl (by omega) ⟨_, rfl, rfl, rfl, (by show (1 = 0 ∧ ov_and (ov_shr (h 63 c) way) 1 = 0 ∨ 1 = 1 ∧ ¬ ov_and (ov_shr (h 63 c) way) 1 = 0); omega)⟩
abbrev Py_Town_isTimed_58_b (F : ov_H × ov_Z) (z : ov_Z) (h : ov_H) (c : Int) : Option ov_V → ov_Z → ov_H → Prop := fun r0 z' h' => ∃ r : Int, r0 = some (ov_i r) ∧ z = z' ∧ h = h' ∧ ((r = 0 ∧ ¬ (h 59 c) = 0 ∧ ¬ (h 59 c) = 1 ∨ r = 1 ∧ ((h 59 c) = 0 ∨ (h 59 c) = 1)))
set_option maxHeartbeats 4000000 in
theorem cy_Town_isTimed_58_b {u : ov_U} {F : ov_H × ov_Z} {z : ov_Z} {h : ov_H} (d : Nat) (hd : 0 ≤ d) (U : ov_cap u) (I : ov_Y F z h) (c : Int) (g_c : ov_g c) (p0 : 0 ≤ c ∧ c ≤ 53) : ov_T u d ov_m20 [ov_r 58, ov_i c] z h (Py_Town_isTimed_58_b F z h c) := by
  refine ov_en rfl (Nat.le_of_ble_eq_true rfl) ?_
  show ov_R u d ov_m20 0 [(0, ov_r 58), (1, ov_i c)] [] z h (Py_Town_isTimed_58_b F z h c)
  refine ov_blk (ls2 := [(0, ov_r 58), (1, ov_i c)]) (st2 := [ov_r 58]) (pc2 := 1) b_20_0_1 rfl rfl ?_
  refine ov_getf (v := ov_r 59) d_20_1 fl_Town_9 (yb_58 I) (ys_58 I) (congrArg ov_r (yg_58_2 I)) ?_
  refine ov_blk (ls2 := [(0, ov_r 58), (1, ov_i c)]) (st2 := [ov_i c, ov_r 59]) (pc2 := 5) b_20_4_1 rfl rfl ?_
  refine ov_iald d_20_5 (yb_59 I) (ys_59 I) (by omega) ?_
  have g1 := ya_59 I c
  refine ov_ifeq (tgt := 19) d_20_6 (by decide) (by omega) (fun c2 => ?_) (fun c2 => ?_)
  · skip
    refine ov_blk (ls2 := [(0, ov_r 58), (1, ov_i c)]) (st2 := [ov_i 1]) (pc2 := 20) b_20_19_1 rfl rfl ?_
    refine ov_goto (tgt := 24) d_20_20 (by decide) ?_
    exact ov_retz (st := []) d_20_24 rfl (by omega) ⟨_, rfl, rfl, rfl, (by show (1 = 0 ∧ ¬ (h 59 c) = 0 ∧ ¬ (h 59 c) = 1 ∨ 1 = 1 ∧ ((h 59 c) = 0 ∨ (h 59 c) = 1)); omega)⟩
  · skip
    refine ov_blk (ls2 := [(0, ov_r 58), (1, ov_i c)]) (st2 := [ov_r 58]) (pc2 := 10) b_20_9_1 rfl rfl ?_
    refine ov_getf (v := ov_r 59) d_20_10 fl_Town_9 (yb_58 I) (ys_58 I) (congrArg ov_r (yg_58_2 I)) ?_
    refine ov_blk (ls2 := [(0, ov_r 58), (1, ov_i c)]) (st2 := [ov_i c, ov_r 59]) (pc2 := 14) b_20_13_1 rfl rfl ?_
    refine ov_iald d_20_14 (yb_59 I) (ys_59 I) (by omega) ?_
    refine ov_blk (ls2 := [(0, ov_r 58), (1, ov_i c)]) (st2 := [ov_i 1, ov_i (h 59 c)]) (pc2 := 16) b_20_15_1 rfl rfl ?_
    refine ov_icne (tgt := 23) d_20_16 (by decide) (by omega) (by omega) (fun c4 => ?_) (fun c4 => ?_)
    · skip
      refine ov_blk (ls2 := [(0, ov_r 58), (1, ov_i c)]) (st2 := [ov_i 0]) (pc2 := 24) b_20_23_1 rfl rfl ?_
      exact ov_retz (st := []) d_20_24 rfl (by omega) ⟨_, rfl, rfl, rfl, (by show (0 = 0 ∧ ¬ (h 59 c) = 0 ∧ ¬ (h 59 c) = 1 ∨ 0 = 1 ∧ ((h 59 c) = 0 ∨ (h 59 c) = 1)); omega)⟩
    · skip
      refine ov_blk (ls2 := [(0, ov_r 58), (1, ov_i c)]) (st2 := [ov_i 1]) (pc2 := 20) b_20_19_1 rfl rfl ?_
      refine ov_goto (tgt := 24) d_20_20 (by decide) ?_
      exact ov_retz (st := []) d_20_24 rfl (by omega) ⟨_, rfl, rfl, rfl, (by show (1 = 0 ∧ ¬ (h 59 c) = 0 ∧ ¬ (h 59 c) = 1 ∨ 1 = 1 ∧ ((h 59 c) = 0 ∨ (h 59 c) = 1)); omega)⟩
abbrev Py_Town_opens_58_t (F : ov_H × ov_Z) (z : ov_Z) (h : ov_H) (c : Int) (way : Int) : Option ov_V → ov_Z → ov_H → Prop := fun r0 z' h' => ∃ r : Int, r0 = some (ov_i r) ∧ z = z' ∧ h = h' ∧ (r = tw_op (h 58 0) (h 58 1) (h 59 c) (h 60 c) (h 62 c) (h 63 c) c way ∧ (r = 0 ∨ r = 1) ∧ (r = 1 → (way = 0 ∧ c ≤ 52) ∨ (way = 1 ∧ c ≤ 47)))
set_option maxHeartbeats 4000000 in
theorem cy_Town_opens_58_t {u : ov_U} {F : ov_H × ov_Z} {z : ov_Z} {h : ov_H} (d : Nat) (hd : 1 ≤ d) (U : ov_cap u) (I : ov_Y F z h) (c : Int) (way : Int) (g_c : ov_g c) (g_way : ov_g way) (p0 : 0 ≤ c ∧ c ≤ 53) (p1 : way = 0 ∨ way = 1) : ov_T u d ov_m17 [ov_r 58, ov_i c, ov_i way] z h (Py_Town_opens_58_t F z h c way) := by
  refine ov_en rfl (Nat.le_of_ble_eq_true rfl) ?_
  show ov_R u d ov_m17 0 [(0, ov_r 58), (1, ov_i c), (2, ov_i way)] [] z h (Py_Town_opens_58_t F z h c way)
  have rgx0 := yg_58_0 I
  have rgx1 := yg_58_1 I
  refine ov_blk (ls2 := [(0, ov_r 58), (1, ov_i c), (2, ov_i way)]) (st2 := [ov_i way, ov_i c, ov_r 58]) (pc2 := 3) b_17_0_3 rfl rfl ?_
  refine ov_cV (as := [ov_i c, ov_i way]) (st := []) (d2 := d - 1) d_17_3 lk_Town_83 rfl (Nat.le_of_ble_eq_true rfl) (c := 9) (yb_58 I) (ys_58 I) ⟨by decide, rfl⟩ (by omega) (cy_Town_isBeyond_58_t (d - 1) (by omega) U I c way (by omega) (by omega) (by omega)) ?_
  rintro _ _ _ ⟨v2, rfl, rfl, rfl, f1⟩
  show ov_R u d ov_m17 6 [(0, ov_r 58), (1, ov_i c), (2, ov_i way)] [ov_i v2] z h (Py_Town_opens_58_t F z h c way)
  have f3 : (way = 0 ∧ (v2 = 0 ∧ c % 6 < (h 58 0) - 1 ∨ v2 = 1 ∧ (h 58 0) - 1 ≤ c % 6) ∨ ¬ way = 0 ∧ (v2 = 0 ∧ c / 6 < (h 58 1) - 1 ∨ v2 = 1 ∧ (h 58 1) - 1 ≤ c / 6)) := f1
  clear f1
  refine ov_ifne (tgt := 18) d_17_6 (by decide) (by omega) (fun c4 => ?_) (fun c4 => ?_)
  · skip
    refine ov_blk (ls2 := [(0, ov_r 58), (1, ov_i c), (2, ov_i way)]) (st2 := [ov_i 0]) (pc2 := 19) b_17_18_1 rfl rfl ?_
    exact ov_retz (st := []) d_17_19 rfl (by omega) ⟨_, rfl, rfl, rfl, (by show 0 = tw_op (h 58 0) (h 58 1) (h 59 c) (h 60 c) (h 62 c) (h 63 c) c way ∧ (0 = 0 ∨ 0 = 1) ∧ (0 = 1 → (way = 0 ∧ c ≤ 52) ∨ (way = 1 ∧ c ≤ 47)); refine ⟨?_, by omega⟩; unfold tw_op; repeat' split; all_goals omega)⟩
  · skip
    refine ov_blk (ls2 := [(0, ov_r 58), (1, ov_i c), (2, ov_i way)]) (st2 := [ov_i way, ov_i c, ov_r 58]) (pc2 := 12) b_17_9_3 rfl rfl ?_
    refine ov_cV (as := [ov_i c, ov_i way]) (st := []) (d2 := d - 1) d_17_12 lk_Town_86 rfl (Nat.le_of_ble_eq_true rfl) (c := 9) (yb_58 I) (ys_58 I) ⟨by decide, rfl⟩ (by omega) (cy_Town_isBarred_58_t (d - 1) (by omega) U I c way (by omega) (by omega) (by omega)) ?_
    rintro _ _ _ ⟨v6, rfl, rfl, rfl, f5⟩
    show ov_R u d ov_m17 15 [(0, ov_r 58), (1, ov_i c), (2, ov_i way)] [ov_i v6] z h (Py_Town_opens_58_t F z h c way)
    have f7 : (v6 = 0 ∧ ov_and (ov_shr (h 63 c) way) 1 = 0 ∨ v6 = 1 ∧ ¬ ov_and (ov_shr (h 63 c) way) 1 = 0) := f5
    clear f5
    refine ov_ifeq (tgt := 20) d_17_15 (by decide) (by omega) (fun c8 => ?_) (fun c8 => ?_)
    · skip
      refine ov_blk (ls2 := [(0, ov_r 58), (1, ov_i c), (2, ov_i way)]) (st2 := [ov_i c, ov_r 58]) (pc2 := 22) b_17_20_2 rfl rfl ?_
      refine ov_cV (as := [ov_i c]) (st := []) (d2 := d - 1) d_17_22 lk_Town_89 rfl (Nat.le_of_ble_eq_true rfl) (c := 9) (yb_58 I) (ys_58 I) ⟨by decide, rfl⟩ (by omega) (cy_Town_isTimed_58_b (d - 1) (by omega) U I c (by omega) (by omega)) ?_
      rintro _ _ _ ⟨v10, rfl, rfl, rfl, f9⟩
      show ov_R u d ov_m17 25 [(0, ov_r 58), (1, ov_i c), (2, ov_i way)] [ov_i v10] z h (Py_Town_opens_58_t F z h c way)
      have f11 : (v10 = 0 ∧ ¬ (h 59 c) = 0 ∧ ¬ (h 59 c) = 1 ∨ v10 = 1 ∧ ((h 59 c) = 0 ∨ (h 59 c) = 1)) := f9
      clear f9
      refine ov_ifeq (tgt := 59) d_17_25 (by decide) (by omega) (fun c12 => ?_) (fun c12 => ?_)
      · skip
        refine ov_blk (ls2 := [(0, ov_r 58), (1, ov_i c), (2, ov_i way)]) (st2 := [ov_i 1]) (pc2 := 60) b_17_59_1 rfl rfl ?_
        refine ov_goto (tgt := 64) d_17_60 (by decide) ?_
        exact ov_retz (st := []) d_17_64 rfl (by omega) ⟨_, rfl, rfl, rfl, (by show 1 = tw_op (h 58 0) (h 58 1) (h 59 c) (h 60 c) (h 62 c) (h 63 c) c way ∧ (1 = 0 ∨ 1 = 1) ∧ (1 = 1 → (way = 0 ∧ c ≤ 52) ∨ (way = 1 ∧ c ≤ 47)); refine ⟨?_, by omega⟩; unfold tw_op; repeat' split; all_goals omega)⟩
      · skip
        refine ov_blk (ls2 := [(0, ov_r 58), (1, ov_i c), (2, ov_i way)]) (st2 := [ov_i way]) (pc2 := 29) b_17_28_1 rfl rfl ?_
        refine ov_ifne (tgt := 44) d_17_29 (by decide) (by omega) (fun c13 => ?_) (fun c13 => ?_)
        · skip
          refine ov_blk (ls2 := [(0, ov_r 58), (1, ov_i c), (2, ov_i way)]) (st2 := [ov_r 58]) (pc2 := 45) b_17_44_1 rfl rfl ?_
          refine ov_getf (v := ov_r 62) d_17_45 fl_Town_21 (yb_58 I) (ys_58 I) (congrArg ov_r (yg_58_5 I)) ?_
          refine ov_blk (ls2 := [(0, ov_r 58), (1, ov_i c), (2, ov_i way)]) (st2 := [ov_i c, ov_r 62]) (pc2 := 49) b_17_48_1 rfl rfl ?_
          refine ov_iald d_17_49 (yb_62 I) (ys_62 I) (by omega) ?_
          have g14 := ya_62 I c
          refine ov_blk (ls2 := [(0, ov_r 58), (1, ov_i c), (2, ov_i way)]) (st2 := [ov_r 58, ov_i (h 62 c)]) (pc2 := 51) b_17_50_1 rfl rfl ?_
          refine ov_getf (v := ov_r 60) d_17_51 fl_Town_15 (yb_58 I) (ys_58 I) (congrArg ov_r (yg_58_3 I)) ?_
          refine ov_blk (ls2 := [(0, ov_r 58), (1, ov_i c), (2, ov_i way)]) (st2 := [ov_i c, ov_r 60, ov_i (h 62 c)]) (pc2 := 55) b_17_54_1 rfl rfl ?_
          refine ov_iald d_17_55 (yb_60 I) (ys_60 I) (by omega) ?_
          have g15 := ya_60 I c
          refine ov_icge (tgt := 63) d_17_56 (by decide) (by omega) (by omega) (fun c16 => ?_) (fun c16 => ?_)
          · skip
            refine ov_blk (ls2 := [(0, ov_r 58), (1, ov_i c), (2, ov_i way)]) (st2 := [ov_i 0]) (pc2 := 64) b_17_63_1 rfl rfl ?_
            exact ov_retz (st := []) d_17_64 rfl (by omega) ⟨_, rfl, rfl, rfl, (by show 0 = tw_op (h 58 0) (h 58 1) (h 59 c) (h 60 c) (h 62 c) (h 63 c) c way ∧ (0 = 0 ∨ 0 = 1) ∧ (0 = 1 → (way = 0 ∧ c ≤ 52) ∨ (way = 1 ∧ c ≤ 47)); refine ⟨?_, by omega⟩; unfold tw_op; repeat' split; all_goals omega)⟩
          · skip
            refine ov_blk (ls2 := [(0, ov_r 58), (1, ov_i c), (2, ov_i way)]) (st2 := [ov_i 1]) (pc2 := 60) b_17_59_1 rfl rfl ?_
            refine ov_goto (tgt := 64) d_17_60 (by decide) ?_
            exact ov_retz (st := []) d_17_64 rfl (by omega) ⟨_, rfl, rfl, rfl, (by show 1 = tw_op (h 58 0) (h 58 1) (h 59 c) (h 60 c) (h 62 c) (h 63 c) c way ∧ (1 = 0 ∨ 1 = 1) ∧ (1 = 1 → (way = 0 ∧ c ≤ 52) ∨ (way = 1 ∧ c ≤ 47)); refine ⟨?_, by omega⟩; unfold tw_op; repeat' split; all_goals omega)⟩
        · skip
          refine ov_blk (ls2 := [(0, ov_r 58), (1, ov_i c), (2, ov_i way)]) (st2 := [ov_r 58]) (pc2 := 33) b_17_32_1 rfl rfl ?_
          refine ov_getf (v := ov_r 62) d_17_33 fl_Town_21 (yb_58 I) (ys_58 I) (congrArg ov_r (yg_58_5 I)) ?_
          refine ov_blk (ls2 := [(0, ov_r 58), (1, ov_i c), (2, ov_i way)]) (st2 := [ov_i c, ov_r 62]) (pc2 := 37) b_17_36_1 rfl rfl ?_
          refine ov_iald d_17_37 (yb_62 I) (ys_62 I) (by omega) ?_
          have g17 := ya_62 I c
          refine ov_ifle (tgt := 63) d_17_38 (by decide) (by omega) (fun c18 => ?_) (fun c18 => ?_)
          · skip
            refine ov_blk (ls2 := [(0, ov_r 58), (1, ov_i c), (2, ov_i way)]) (st2 := [ov_i 0]) (pc2 := 64) b_17_63_1 rfl rfl ?_
            exact ov_retz (st := []) d_17_64 rfl (by omega) ⟨_, rfl, rfl, rfl, (by show 0 = tw_op (h 58 0) (h 58 1) (h 59 c) (h 60 c) (h 62 c) (h 63 c) c way ∧ (0 = 0 ∨ 0 = 1) ∧ (0 = 1 → (way = 0 ∧ c ≤ 52) ∨ (way = 1 ∧ c ≤ 47)); refine ⟨?_, by omega⟩; unfold tw_op; repeat' split; all_goals omega)⟩
          · skip
            refine ov_goto (tgt := 59) d_17_41 (by decide) ?_
            refine ov_blk (ls2 := [(0, ov_r 58), (1, ov_i c), (2, ov_i way)]) (st2 := [ov_i 1]) (pc2 := 60) b_17_59_1 rfl rfl ?_
            refine ov_goto (tgt := 64) d_17_60 (by decide) ?_
            exact ov_retz (st := []) d_17_64 rfl (by omega) ⟨_, rfl, rfl, rfl, (by show 1 = tw_op (h 58 0) (h 58 1) (h 59 c) (h 60 c) (h 62 c) (h 63 c) c way ∧ (1 = 0 ∨ 1 = 1) ∧ (1 = 1 → (way = 0 ∧ c ≤ 52) ∨ (way = 1 ∧ c ≤ 47)); refine ⟨?_, by omega⟩; unfold tw_op; repeat' split; all_goals omega)⟩
    · skip
      refine ov_blk (ls2 := [(0, ov_r 58), (1, ov_i c), (2, ov_i way)]) (st2 := [ov_i 0]) (pc2 := 19) b_17_18_1 rfl rfl ?_
      exact ov_retz (st := []) d_17_19 rfl (by omega) ⟨_, rfl, rfl, rfl, (by show 0 = tw_op (h 58 0) (h 58 1) (h 59 c) (h 60 c) (h 62 c) (h 63 c) c way ∧ (0 = 0 ∨ 0 = 1) ∧ (0 = 1 → (way = 0 ∧ c ≤ 52) ∨ (way = 1 ∧ c ≤ 47)); refine ⟨?_, by omega⟩; unfold tw_op; repeat' split; all_goals omega)⟩
abbrev Py_fTown_setUnlessTold_58 (F : ov_H × ov_Z) (z : ov_Z) (h : ov_H) (w : Int) (v : Int) : Option ov_V → ov_Z → ov_H → Prop := fun r0 z' h' => r0 = none ∧ ov_Y F z' h' ∧ (∀ a : Int, a ≠ 64 → h' a = h a) ∧ ((h' 64) = ov_rs (h 64) w (if (h 64) w = -1 then v else (h 64) w))
set_option maxHeartbeats 4000000 in
theorem cy_fTown_setUnlessTold_58 {u : ov_U} {F : ov_H × ov_Z} {z : ov_Z} {h : ov_H} (d : Nat) (hd : 0 ≤ d) (U : ov_cap u) (I : ov_Y F z h) (w : Int) (v : Int) (g_w : ov_g w) (g_v : ov_g v) (p0 : 0 ≤ w ∧ w ≤ 3) (p1 : 0 ≤ v ∧ v ≤ 30 ∧ (w = 3 → v ≤ 9)) : ov_T u d ov_m16 [ov_r 58, ov_i w, ov_i v] z h (Py_fTown_setUnlessTold_58 F z h w v) := by
  refine ov_en rfl (Nat.le_of_ble_eq_true rfl) ?_
  show ov_R u d ov_m16 0 [(0, ov_r 58), (1, ov_i w), (2, ov_i v)] [] z h (Py_fTown_setUnlessTold_58 F z h w v)
  refine ov_blk (ls2 := [(0, ov_r 58), (1, ov_i w), (2, ov_i v)]) (st2 := [ov_r 58]) (pc2 := 1) b_16_0_1 rfl rfl ?_
  refine ov_getf (v := ov_r 64) d_16_1 fl_Town_27 (yb_58 I) (ys_58 I) (congrArg ov_r (yg_58_7 I)) ?_
  refine ov_blk (ls2 := [(0, ov_r 58), (1, ov_i w), (2, ov_i v)]) (st2 := [ov_i w, ov_r 64]) (pc2 := 5) b_16_4_1 rfl rfl ?_
  refine ov_iald d_16_5 (yb_64 I) (ys_64 I) (by omega) ?_
  show ov_R u d ov_m16 6 [(0, ov_r 58), (1, ov_i w), (2, ov_i v)] [ov_i (h 64 w)] z h (Py_fTown_setUnlessTold_58 F z h w v)
  have g1 := ya_64 I w
  refine ov_blk (ls2 := [(0, ov_r 58), (1, ov_i w), (2, ov_i v)]) (st2 := [ov_i (-1), ov_i (h 64 w)]) (pc2 := 7) b_16_6_1 rfl rfl ?_
  refine ov_icne (tgt := 17) d_16_7 (by decide) (by omega) (by omega) (fun c2 => ?_) (fun c2 => ?_)
  · skip
    exact ov_retv (st := []) d_16_17 rfl ⟨rfl, I, (fun a ca => rfl), (by rw [if_neg (show ¬ h 64 w = -1 by omega)]; funext j; unfold ov_rs; split <;> (first | rfl | (rename_i e; rw [e])))⟩
  · skip
    refine ov_blk (ls2 := [(0, ov_r 58), (1, ov_i w), (2, ov_i v)]) (st2 := [ov_r 58]) (pc2 := 11) b_16_10_1 rfl rfl ?_
    refine ov_getf (v := ov_r 64) d_16_11 fl_Town_27 (yb_58 I) (ys_58 I) (congrArg ov_r (yg_58_7 I)) ?_
    refine ov_blk (ls2 := [(0, ov_r 58), (1, ov_i w), (2, ov_i v)]) (st2 := [ov_i v, ov_i w, ov_r 64]) (pc2 := 16) b_16_14_2 rfl rfl ?_
    refine ov_iast d_16_16 (yb_64 I) (ys_64 I) (by omega) ?_
    have I3 := yu_64 (k := w) (x := v) I (by omega)
    exact ov_retv (st := []) d_16_17 rfl ⟨rfl, I3, (fun a ca => Eq.trans (by show (ov_up h 64 w v) a = h a; rw [ov_up_ne (by omega)]) rfl), (by rw [if_pos (show h 64 w = -1 by omega)]; exact (Eq.trans (ov_up_row h 64 w v) (congrArg (fun f => ov_rs f w v) rfl)))⟩
abbrev Py_fTown_complete_58 (F : ov_H × ov_Z) (z : ov_Z) (h : ov_H) : Option ov_V → ov_Z → ov_H → Prop := fun r0 z' h' => r0 = none ∧ ov_Y F z' h' ∧ (∀ a : Int, (a < 64 ∨ 65 < a) → h' a = h a) ∧ (0 ≤ (h' 64 0)) ∧ (((h 64) 0 = -1 → (h' 64) 0 = 10) ∧ (¬ (h 64) 0 = -1 → (h' 64) 0 = (h 64) 0) ∧ ((h 64) 1 = -1 → (h' 64) 1 = (h' 64) 0) ∧ (¬ (h 64) 1 = -1 → (h' 64) 1 = (h 64) 1) ∧ ((h 64) 2 = -1 → (h' 64) 2 = (h' 64) 0) ∧ (¬ (h 64) 2 = -1 → (h' 64) 2 = (h 64) 2) ∧ ((h 64) 3 = -1 → (h' 64) 3 = 0) ∧ (¬ (h 64) 3 = -1 → (h' 64) 3 = (h 64) 3)) ∧ (∀ j : Int, 0 ≤ j → j < 54 → (h' 65) j = tw_opx (h 58) (h 59) (h 60) (h 62) (h 63) j)
set_option maxHeartbeats 4000000 in
theorem cy_fTown_complete_58 {u : ov_U} {F : ov_H × ov_Z} {z : ov_Z} {h : ov_H} (d : Nat) (hd : 2 ≤ d) (U : ov_cap u) (I : ov_Y F z h) : ov_T u d ov_m15 [ov_r 58] z h (Py_fTown_complete_58 F z h) := by
  refine ov_en rfl (Nat.le_of_ble_eq_true rfl) ?_
  show ov_R u d ov_m15 0 [(0, ov_r 58)] [] z h (Py_fTown_complete_58 F z h)
  refine ov_blk (ls2 := [(0, ov_r 58)]) (st2 := [ov_i 10, ov_i 0, ov_r 58]) (pc2 := 4) b_15_0_3 rfl rfl ?_
  refine ov_cV (as := [ov_i 0, ov_i 10]) (st := []) (d2 := d - 1) d_15_4 lk_Town_75 rfl (Nat.le_of_ble_eq_true rfl) (c := 9) (yb_58 I) (ys_58 I) ⟨by decide, rfl⟩ (by omega) (cy_fTown_setUnlessTold_58 (d - 1) (by omega) U I 0 10 (by omega) (by omega) (by show 0 ≤ (0 : Int) ∧ (0 : Int) ≤ 3; omega) (by show 0 ≤ (10 : Int) ∧ (10 : Int) ≤ 30 ∧ ((0 : Int) = 3 → (10 : Int) ≤ 9); omega)) ?_
  rintro _ z1 h2 ⟨rfl, I3, y4, y5⟩
  have E6 : h2 58 = h 58 := Eq.trans (y4 58 (by decide)) (show h 58 = h 58 from rfl)
  have E7 : h2 59 = h 59 := Eq.trans (y4 59 (by decide)) (show h 59 = h 59 from rfl)
  have E8 : h2 60 = h 60 := Eq.trans (y4 60 (by decide)) (show h 60 = h 60 from rfl)
  have E9 : h2 62 = h 62 := Eq.trans (y4 62 (by decide)) (show h 62 = h 62 from rfl)
  have E10 : h2 63 = h 63 := Eq.trans (y4 63 (by decide)) (show h 63 = h 63 from rfl)
  have E11 : h2 65 = h 65 := Eq.trans (y4 65 (by decide)) (show h 65 = h 65 from rfl)
  have fr12 : ∀ a : Int, (a < 64 ∨ 65 < a) → h2 a = h a := fun a ca => Eq.trans (y4 a (by omega)) rfl
  have y5_ : (h2 64) = ov_rs (h 64) (0 : Int) (if (h 64) (0 : Int) = -1 then (10 : Int) else (h 64) (0 : Int)) := y5
  show ov_R u d ov_m15 7 [(0, ov_r 58)] [] z1 h2 (Py_fTown_complete_58 F z h)
  have sc13 : (h 64 0 = -1 → h2 64 0 = 10) ∧ (¬ h 64 0 = -1 → h2 64 0 = h 64 0) := by have q := congrFun y5_ 0; rw [ov_rs_eq] at q; split at q <;> omega
  have sc14 : h2 64 1 = h 64 1 := by have q := congrFun y5_ 1; rw [ov_rs_ne (by decide)] at q; omega
  have sc15 : h2 64 2 = h 64 2 := by have q := congrFun y5_ 2; rw [ov_rs_ne (by decide)] at q; omega
  have sc16 : h2 64 3 = h 64 3 := by have q := congrFun y5_ 3; rw [ov_rs_ne (by decide)] at q; omega
  have w0 : 0 ≤ h2 64 0 := by have q := congrFun y5_ 0; rw [ov_rs_eq] at q; have g := ya_64 I3 0; split at q <;> omega
  refine ov_blk (ls2 := [(0, ov_r 58)]) (st2 := [ov_r 58, ov_i 1, ov_r 58]) (pc2 := 10) b_15_7_3 rfl rfl ?_
  refine ov_getf (v := ov_r 64) d_15_10 fl_Town_27 (yb_58 I3) (ys_58 I3) (congrArg ov_r (yg_58_7 I3)) ?_
  refine ov_blk (ls2 := [(0, ov_r 58)]) (st2 := [ov_i 0, ov_r 64, ov_i 1, ov_r 58]) (pc2 := 14) b_15_13_1 rfl rfl ?_
  refine ov_iald d_15_14 (yb_64 I3) (ys_64 I3) (by omega) ?_
  show ov_R u d ov_m15 15 [(0, ov_r 58)] [ov_i (h2 64 0), ov_i 1, ov_r 58] z1 h2 (Py_fTown_complete_58 F z h)
  have g17 := ya_64 I3 0
  refine ov_cV (as := [ov_i 1, ov_i (h2 64 0)]) (st := []) (d2 := d - 1) d_15_15 lk_Town_75 rfl (Nat.le_of_ble_eq_true rfl) (c := 9) (yb_58 I3) (ys_58 I3) ⟨by decide, rfl⟩ (by omega) (cy_fTown_setUnlessTold_58 (d - 1) (by omega) U I3 1 (h2 64 0) (by omega) (by omega) (by show 0 ≤ (1 : Int) ∧ (1 : Int) ≤ 3; omega) (by show 0 ≤ (h2 64 0) ∧ (h2 64 0) ≤ 30 ∧ ((1 : Int) = 3 → (h2 64 0) ≤ 9); omega)) ?_
  rintro _ z18 h19 ⟨rfl, I20, y21, y22⟩
  have E23 : h19 58 = h 58 := Eq.trans (y21 58 (by decide)) (show h2 58 = h 58 from E6)
  have E24 : h19 59 = h 59 := Eq.trans (y21 59 (by decide)) (show h2 59 = h 59 from E7)
  have E25 : h19 60 = h 60 := Eq.trans (y21 60 (by decide)) (show h2 60 = h 60 from E8)
  have E26 : h19 62 = h 62 := Eq.trans (y21 62 (by decide)) (show h2 62 = h 62 from E9)
  have E27 : h19 63 = h 63 := Eq.trans (y21 63 (by decide)) (show h2 63 = h 63 from E10)
  have E28 : h19 65 = h 65 := Eq.trans (y21 65 (by decide)) (show h2 65 = h 65 from E11)
  have fr29 : ∀ a : Int, (a < 64 ∨ 65 < a) → h19 a = h a := fun a ca => Eq.trans (y21 a (by omega)) (fr12 a ca)
  have y22_ : (h19 64) = ov_rs (h2 64) (1 : Int) (if (h2 64) (1 : Int) = -1 then (h2 64 0) else (h2 64) (1 : Int)) := y22
  show ov_R u d ov_m15 18 [(0, ov_r 58)] [] z18 h19 (Py_fTown_complete_58 F z h)
  have sc30 : h19 64 0 = h2 64 0 := by have q := congrFun y22_ 0; rw [ov_rs_ne (by decide)] at q; omega
  have sc31 : (h2 64 1 = -1 → h19 64 1 = (h2 64 0)) ∧ (¬ h2 64 1 = -1 → h19 64 1 = h2 64 1) := by have q := congrFun y22_ 1; rw [ov_rs_eq] at q; split at q <;> omega
  have sc32 : h19 64 2 = h2 64 2 := by have q := congrFun y22_ 2; rw [ov_rs_ne (by decide)] at q; omega
  have sc33 : h19 64 3 = h2 64 3 := by have q := congrFun y22_ 3; rw [ov_rs_ne (by decide)] at q; omega
  have w34 : 0 ≤ h19 64 0 := by have q := congrFun y22_ 0; rw [ov_rs_ne (by decide)] at q; omega
  refine ov_blk (ls2 := [(0, ov_r 58)]) (st2 := [ov_r 58, ov_i 2, ov_r 58]) (pc2 := 21) b_15_18_3 rfl rfl ?_
  refine ov_getf (v := ov_r 64) d_15_21 fl_Town_27 (yb_58 I20) (ys_58 I20) (congrArg ov_r (yg_58_7 I20)) ?_
  refine ov_blk (ls2 := [(0, ov_r 58)]) (st2 := [ov_i 0, ov_r 64, ov_i 2, ov_r 58]) (pc2 := 25) b_15_24_1 rfl rfl ?_
  refine ov_iald d_15_25 (yb_64 I20) (ys_64 I20) (by omega) ?_
  show ov_R u d ov_m15 26 [(0, ov_r 58)] [ov_i (h19 64 0), ov_i 2, ov_r 58] z18 h19 (Py_fTown_complete_58 F z h)
  have g35 := ya_64 I20 0
  refine ov_cV (as := [ov_i 2, ov_i (h19 64 0)]) (st := []) (d2 := d - 1) d_15_26 lk_Town_75 rfl (Nat.le_of_ble_eq_true rfl) (c := 9) (yb_58 I20) (ys_58 I20) ⟨by decide, rfl⟩ (by omega) (cy_fTown_setUnlessTold_58 (d - 1) (by omega) U I20 2 (h19 64 0) (by omega) (by omega) (by show 0 ≤ (2 : Int) ∧ (2 : Int) ≤ 3; omega) (by show 0 ≤ (h19 64 0) ∧ (h19 64 0) ≤ 30 ∧ ((2 : Int) = 3 → (h19 64 0) ≤ 9); omega)) ?_
  rintro _ z36 h37 ⟨rfl, I38, y39, y40⟩
  have E41 : h37 58 = h 58 := Eq.trans (y39 58 (by decide)) (show h19 58 = h 58 from E23)
  have E42 : h37 59 = h 59 := Eq.trans (y39 59 (by decide)) (show h19 59 = h 59 from E24)
  have E43 : h37 60 = h 60 := Eq.trans (y39 60 (by decide)) (show h19 60 = h 60 from E25)
  have E44 : h37 62 = h 62 := Eq.trans (y39 62 (by decide)) (show h19 62 = h 62 from E26)
  have E45 : h37 63 = h 63 := Eq.trans (y39 63 (by decide)) (show h19 63 = h 63 from E27)
  have E46 : h37 65 = h 65 := Eq.trans (y39 65 (by decide)) (show h19 65 = h 65 from E28)
  have fr47 : ∀ a : Int, (a < 64 ∨ 65 < a) → h37 a = h a := fun a ca => Eq.trans (y39 a (by omega)) (fr29 a ca)
  have y40_ : (h37 64) = ov_rs (h19 64) (2 : Int) (if (h19 64) (2 : Int) = -1 then (h19 64 0) else (h19 64) (2 : Int)) := y40
  show ov_R u d ov_m15 29 [(0, ov_r 58)] [] z36 h37 (Py_fTown_complete_58 F z h)
  have sc48 : h37 64 0 = h19 64 0 := by have q := congrFun y40_ 0; rw [ov_rs_ne (by decide)] at q; omega
  have sc49 : h37 64 1 = h19 64 1 := by have q := congrFun y40_ 1; rw [ov_rs_ne (by decide)] at q; omega
  have sc50 : (h19 64 2 = -1 → h37 64 2 = (h19 64 0)) ∧ (¬ h19 64 2 = -1 → h37 64 2 = h19 64 2) := by have q := congrFun y40_ 2; rw [ov_rs_eq] at q; split at q <;> omega
  have sc51 : h37 64 3 = h19 64 3 := by have q := congrFun y40_ 3; rw [ov_rs_ne (by decide)] at q; omega
  have w52 : 0 ≤ h37 64 0 := by have q := congrFun y40_ 0; rw [ov_rs_ne (by decide)] at q; omega
  refine ov_blk (ls2 := [(0, ov_r 58)]) (st2 := [ov_i 0, ov_i 3, ov_r 58]) (pc2 := 32) b_15_29_3 rfl rfl ?_
  refine ov_cV (as := [ov_i 3, ov_i 0]) (st := []) (d2 := d - 1) d_15_32 lk_Town_75 rfl (Nat.le_of_ble_eq_true rfl) (c := 9) (yb_58 I38) (ys_58 I38) ⟨by decide, rfl⟩ (by omega) (cy_fTown_setUnlessTold_58 (d - 1) (by omega) U I38 3 0 (by omega) (by omega) (by show 0 ≤ (3 : Int) ∧ (3 : Int) ≤ 3; omega) (by show 0 ≤ (0 : Int) ∧ (0 : Int) ≤ 30 ∧ ((3 : Int) = 3 → (0 : Int) ≤ 9); omega)) ?_
  rintro _ z53 h54 ⟨rfl, I55, y56, y57⟩
  have E58 : h54 58 = h 58 := Eq.trans (y56 58 (by decide)) (show h37 58 = h 58 from E41)
  have E59 : h54 59 = h 59 := Eq.trans (y56 59 (by decide)) (show h37 59 = h 59 from E42)
  have E60 : h54 60 = h 60 := Eq.trans (y56 60 (by decide)) (show h37 60 = h 60 from E43)
  have E61 : h54 62 = h 62 := Eq.trans (y56 62 (by decide)) (show h37 62 = h 62 from E44)
  have E62 : h54 63 = h 63 := Eq.trans (y56 63 (by decide)) (show h37 63 = h 63 from E45)
  have E63 : h54 65 = h 65 := Eq.trans (y56 65 (by decide)) (show h37 65 = h 65 from E46)
  have fr64 : ∀ a : Int, (a < 64 ∨ 65 < a) → h54 a = h a := fun a ca => Eq.trans (y56 a (by omega)) (fr47 a ca)
  have y57_ : (h54 64) = ov_rs (h37 64) (3 : Int) (if (h37 64) (3 : Int) = -1 then (0 : Int) else (h37 64) (3 : Int)) := y57
  show ov_R u d ov_m15 35 [(0, ov_r 58)] [] z53 h54 (Py_fTown_complete_58 F z h)
  have sc65 : h54 64 0 = h37 64 0 := by have q := congrFun y57_ 0; rw [ov_rs_ne (by decide)] at q; omega
  have sc66 : h54 64 1 = h37 64 1 := by have q := congrFun y57_ 1; rw [ov_rs_ne (by decide)] at q; omega
  have sc67 : h54 64 2 = h37 64 2 := by have q := congrFun y57_ 2; rw [ov_rs_ne (by decide)] at q; omega
  have sc68 : (h37 64 3 = -1 → h54 64 3 = 0) ∧ (¬ h37 64 3 = -1 → h54 64 3 = h37 64 3) := by have q := congrFun y57_ 3; rw [ov_rs_eq] at q; split at q <;> omega
  have w69 : 0 ≤ h54 64 0 := by have q := congrFun y57_ 0; rw [ov_rs_ne (by decide)] at q; omega
  refine ov_blk (ls2 := [(0, ov_r 58), (1, ov_i 0)]) (st2 := []) (pc2 := 37) b_15_35_2 rfl rfl ?_
  have L73 : ∀ (n70 : Nat) (x1 : Int) (z74 : ov_Z) (h75 : ov_H) (I76 : ov_Y F z74 h75) (E77 : h75 58 = h 58) (E78 : h75 59 = h 59) (E79 : h75 60 = h 60) (E80 : h75 62 = h 62) (E81 : h75 63 = h 63) (E82 : h75 64 = h54 64) (fr83 : ∀ a : Int, (a < 64 ∨ 65 < a) → h75 a = h a) (xj : ∀ j : Int, 0 ≤ j → j < x1 → (h75 65) j = tw_opx (h 58) (h 59) (h 60) (h 62) (h 63) j) (q72 : 0 ≤ x1 ∧ x1 ≤ 54), 54 - x1 < (n70 : Int) → ov_R u d ov_m15 37 [(0, ov_r 58), (1, ov_i x1)] [] z74 h75 (Py_fTown_complete_58 F z h) := by
    intro n70
    induction n70 with
    | zero =>
      intro x1 z74 h75 I76 E77 E78 E79 E80 E81 E82 fr83 xj q72 hn84
      exact absurd hn84 (by omega)
    | succ n70 ih71 =>
      intro x1 z74 h75 I76 E77 E78 E79 E80 E81 E82 fr83 xj q72 hn84
      refine ov_blk (ls2 := [(0, ov_r 58), (1, ov_i x1)]) (st2 := [ov_i 54, ov_i x1]) (pc2 := 40) b_15_37_2 rfl rfl ?_
      refine ov_icge (tgt := 84) d_15_40 (by decide) (by omega) (by omega) (fun c85 => ?_) (fun c85 => ?_)
      · skip
        have cf86 : h75 64 0 = h54 64 0 := congrFun (E82) 0
        exact ov_retv (st := []) d_15_84 rfl ⟨rfl, I76, (fun a ca => (fr83 a ca)), (by show 0 ≤ (h75 64 0); omega), (by have rr : h75 64 = h54 64 := E82; have r0 := congrFun rr 0; have r1 := congrFun rr 1; have r2 := congrFun rr 2; have r3 := congrFun rr 3; refine ⟨fun q => ?_, fun q => ?_, fun q => ?_, fun q => ?_, fun q => ?_, fun q => ?_, fun q => ?_, fun q => ?_⟩ <;> omega), (fun j a b => xj j a (by omega))⟩
      · skip
        refine ov_blk (ls2 := [(0, ov_r 58), (1, ov_i x1)]) (st2 := [ov_r 58]) (pc2 := 44) b_15_43_1 rfl rfl ?_
        refine ov_getf (v := ov_r 65) d_15_44 fl_Town_30 (yb_58 I76) (ys_58 I76) (congrArg ov_r (yg_58_12 I76)) ?_
        refine ov_blk (ls2 := [(0, ov_r 58), (1, ov_i x1)]) (st2 := [ov_i 0, ov_i x1, ov_r 58, ov_i x1, ov_r 65]) (pc2 := 51) b_15_47_4 rfl rfl ?_
        refine ov_cV (as := [ov_i x1, ov_i 0]) (st := [ov_i x1, ov_r 65]) (d2 := d - 1) d_15_51 lk_Town_79 rfl (Nat.le_of_ble_eq_true rfl) (c := 9) (yb_58 I76) (ys_58 I76) ⟨by decide, rfl⟩ (by omega) (cy_Town_opens_58_t (d - 1) (by omega) U I76 x1 0 (by omega) (by omega) (by show 0 ≤ x1 ∧ x1 ≤ 53; omega) (by show (0 : Int) = 0 ∨ (0 : Int) = 1; omega)) ?_
        rintro _ _ _ ⟨v87, rfl, rfl, rfl, f88⟩
        have cf89 : h75 58 0 = h 58 0 := congrFun E77 0
        have cf90 : h75 58 1 = h 58 1 := congrFun E77 1
        have f91 : v87 = tw_op (h75 58 0) (h75 58 1) (h75 59 (x1)) (h75 60 (x1)) (h75 62 (x1)) (h75 63 (x1)) x1 (0 : Int) ∧ (v87 = 0 ∨ v87 = 1) ∧ (v87 = 1 → ((0 : Int) = 0 ∧ x1 ≤ 52) ∨ ((0 : Int) = 1 ∧ x1 ≤ 47)) := f88
        clear f88
        show ov_R u d ov_m15 54 [(0, ov_r 58), (1, ov_i x1)] [ov_i v87, ov_i x1, ov_r 65] z74 h75 (Py_fTown_complete_58 F z h)
        refine ov_ifeq (tgt := 61) d_15_54 (by decide) (by omega) (fun c92 => ?_) (fun c92 => ?_)
        · skip
          refine ov_blk (ls2 := [(0, ov_r 58), (1, ov_i x1)]) (st2 := [ov_i 1, ov_i x1, ov_r 58, ov_i 0, ov_i x1, ov_r 65]) (pc2 := 65) b_15_61_4 rfl rfl ?_
          refine ov_cV (as := [ov_i x1, ov_i 1]) (st := [ov_i 0, ov_i x1, ov_r 65]) (d2 := d - 1) d_15_65 lk_Town_79 rfl (Nat.le_of_ble_eq_true rfl) (c := 9) (yb_58 I76) (ys_58 I76) ⟨by decide, rfl⟩ (by omega) (cy_Town_opens_58_t (d - 1) (by omega) U I76 x1 1 (by omega) (by omega) (by show 0 ≤ x1 ∧ x1 ≤ 53; omega) (by show (1 : Int) = 0 ∨ (1 : Int) = 1; omega)) ?_
          rintro _ _ _ ⟨v93, rfl, rfl, rfl, f94⟩
          have f95 : v93 = tw_op (h75 58 0) (h75 58 1) (h75 59 (x1)) (h75 60 (x1)) (h75 62 (x1)) (h75 63 (x1)) x1 (1 : Int) ∧ (v93 = 0 ∨ v93 = 1) ∧ (v93 = 1 → ((1 : Int) = 0 ∧ x1 ≤ 52) ∨ ((1 : Int) = 1 ∧ x1 ≤ 47)) := f94
          clear f94
          show ov_R u d ov_m15 68 [(0, ov_r 58), (1, ov_i x1)] [ov_i v93, ov_i 0, ov_i x1, ov_r 65] z74 h75 (Py_fTown_complete_58 F z h)
          refine ov_ifeq (tgt := 75) d_15_68 (by decide) (by omega) (fun c96 => ?_) (fun c96 => ?_)
          · skip
            refine ov_blk (ls2 := [(0, ov_r 58), (1, ov_i x1)]) (st2 := [ov_i (0 + 0), ov_i x1, ov_r 65]) (pc2 := 77) b_15_75_2 rfl rfl ?_
            refine ov_iast d_15_77 (yb_65 I76) (ys_65 I76) (by omega) ?_
            have I97 := yu_65 (k := x1) (x := (0 + 0)) I76 (by omega)
            refine ov_blk (ls2 := [(0, ov_r 58), (1, ov_i (x1 + 1))]) (st2 := []) (pc2 := 81) b_15_78_1 rfl rfl ?_
            refine ov_goto (tgt := 37) d_15_81 (by decide) ?_
            exact ih71 (x1 + 1) _ _ I97 E77 E78 E79 E80 E81 E82 (fun a ca => Eq.trans (by show (ov_up h75 65 x1 (0 + 0)) a = h75 a; rw [ov_up_ne (by omega)]) (fr83 a ca)) (fun j a b => if e : j = x1 then (by rw [e]; show ov_up _ 65 _ _ 65 _ = tw_opx (h 58) (h 59) (h 60) (h 62) (h 63) _; rw [ov_up_row, ov_rs_eq, ← (show h75 58 = h 58 from E77), ← (show h75 59 = h 59 from E78), ← (show h75 60 = h 60 from E79), ← (show h75 62 = h 62 from E80), ← (show h75 63 = h 63 from E81)]; unfold tw_opx; omega) else (by show ov_up _ 65 _ _ 65 j = tw_opx (h 58) (h 59) (h 60) (h 62) (h 63) j; rw [ov_up_row, ov_rs_ne e]; exact xj j a (by omega))) (by show 0 ≤ (x1 + 1) ∧ (x1 + 1) ≤ 54; omega) (by omega)
          · skip
            refine ov_blk (ls2 := [(0, ov_r 58), (1, ov_i x1)]) (st2 := [ov_i 2, ov_i 0, ov_i x1, ov_r 65]) (pc2 := 72) b_15_71_1 rfl rfl ?_
            refine ov_goto (tgt := 76) d_15_72 (by decide) ?_
            refine ov_blk (ls2 := [(0, ov_r 58), (1, ov_i x1)]) (st2 := [ov_i (0 + 2), ov_i x1, ov_r 65]) (pc2 := 77) b_15_76_1 rfl rfl ?_
            refine ov_iast d_15_77 (yb_65 I76) (ys_65 I76) (by omega) ?_
            have I98 := yu_65 (k := x1) (x := (0 + 2)) I76 (by omega)
            refine ov_blk (ls2 := [(0, ov_r 58), (1, ov_i (x1 + 1))]) (st2 := []) (pc2 := 81) b_15_78_1 rfl rfl ?_
            refine ov_goto (tgt := 37) d_15_81 (by decide) ?_
            exact ih71 (x1 + 1) _ _ I98 E77 E78 E79 E80 E81 E82 (fun a ca => Eq.trans (by show (ov_up h75 65 x1 (0 + 2)) a = h75 a; rw [ov_up_ne (by omega)]) (fr83 a ca)) (fun j a b => if e : j = x1 then (by rw [e]; show ov_up _ 65 _ _ 65 _ = tw_opx (h 58) (h 59) (h 60) (h 62) (h 63) _; rw [ov_up_row, ov_rs_eq, ← (show h75 58 = h 58 from E77), ← (show h75 59 = h 59 from E78), ← (show h75 60 = h 60 from E79), ← (show h75 62 = h 62 from E80), ← (show h75 63 = h 63 from E81)]; unfold tw_opx; omega) else (by show ov_up _ 65 _ _ 65 j = tw_opx (h 58) (h 59) (h 60) (h 62) (h 63) j; rw [ov_up_row, ov_rs_ne e]; exact xj j a (by omega))) (by show 0 ≤ (x1 + 1) ∧ (x1 + 1) ≤ 54; omega) (by omega)
        · skip
          refine ov_blk (ls2 := [(0, ov_r 58), (1, ov_i x1)]) (st2 := [ov_i 1, ov_i x1, ov_r 65]) (pc2 := 58) b_15_57_1 rfl rfl ?_
          refine ov_goto (tgt := 62) d_15_58 (by decide) ?_
          refine ov_blk (ls2 := [(0, ov_r 58), (1, ov_i x1)]) (st2 := [ov_i 1, ov_i x1, ov_r 58, ov_i 1, ov_i x1, ov_r 65]) (pc2 := 65) b_15_62_3 rfl rfl ?_
          refine ov_cV (as := [ov_i x1, ov_i 1]) (st := [ov_i 1, ov_i x1, ov_r 65]) (d2 := d - 1) d_15_65 lk_Town_79 rfl (Nat.le_of_ble_eq_true rfl) (c := 9) (yb_58 I76) (ys_58 I76) ⟨by decide, rfl⟩ (by omega) (cy_Town_opens_58_t (d - 1) (by omega) U I76 x1 1 (by omega) (by omega) (by show 0 ≤ x1 ∧ x1 ≤ 53; omega) (by show (1 : Int) = 0 ∨ (1 : Int) = 1; omega)) ?_
          rintro _ _ _ ⟨v99, rfl, rfl, rfl, f100⟩
          have f101 : v99 = tw_op (h75 58 0) (h75 58 1) (h75 59 (x1)) (h75 60 (x1)) (h75 62 (x1)) (h75 63 (x1)) x1 (1 : Int) ∧ (v99 = 0 ∨ v99 = 1) ∧ (v99 = 1 → ((1 : Int) = 0 ∧ x1 ≤ 52) ∨ ((1 : Int) = 1 ∧ x1 ≤ 47)) := f100
          clear f100
          show ov_R u d ov_m15 68 [(0, ov_r 58), (1, ov_i x1)] [ov_i v99, ov_i 1, ov_i x1, ov_r 65] z74 h75 (Py_fTown_complete_58 F z h)
          refine ov_ifeq (tgt := 75) d_15_68 (by decide) (by omega) (fun c102 => ?_) (fun c102 => ?_)
          · skip
            refine ov_blk (ls2 := [(0, ov_r 58), (1, ov_i x1)]) (st2 := [ov_i (1 + 0), ov_i x1, ov_r 65]) (pc2 := 77) b_15_75_2 rfl rfl ?_
            refine ov_iast d_15_77 (yb_65 I76) (ys_65 I76) (by omega) ?_
            have I103 := yu_65 (k := x1) (x := (1 + 0)) I76 (by omega)
            refine ov_blk (ls2 := [(0, ov_r 58), (1, ov_i (x1 + 1))]) (st2 := []) (pc2 := 81) b_15_78_1 rfl rfl ?_
            refine ov_goto (tgt := 37) d_15_81 (by decide) ?_
            exact ih71 (x1 + 1) _ _ I103 E77 E78 E79 E80 E81 E82 (fun a ca => Eq.trans (by show (ov_up h75 65 x1 (1 + 0)) a = h75 a; rw [ov_up_ne (by omega)]) (fr83 a ca)) (fun j a b => if e : j = x1 then (by rw [e]; show ov_up _ 65 _ _ 65 _ = tw_opx (h 58) (h 59) (h 60) (h 62) (h 63) _; rw [ov_up_row, ov_rs_eq, ← (show h75 58 = h 58 from E77), ← (show h75 59 = h 59 from E78), ← (show h75 60 = h 60 from E79), ← (show h75 62 = h 62 from E80), ← (show h75 63 = h 63 from E81)]; unfold tw_opx; omega) else (by show ov_up _ 65 _ _ 65 j = tw_opx (h 58) (h 59) (h 60) (h 62) (h 63) j; rw [ov_up_row, ov_rs_ne e]; exact xj j a (by omega))) (by show 0 ≤ (x1 + 1) ∧ (x1 + 1) ≤ 54; omega) (by omega)
          · skip
            refine ov_blk (ls2 := [(0, ov_r 58), (1, ov_i x1)]) (st2 := [ov_i 2, ov_i 1, ov_i x1, ov_r 65]) (pc2 := 72) b_15_71_1 rfl rfl ?_
            refine ov_goto (tgt := 76) d_15_72 (by decide) ?_
            refine ov_blk (ls2 := [(0, ov_r 58), (1, ov_i x1)]) (st2 := [ov_i (1 + 2), ov_i x1, ov_r 65]) (pc2 := 77) b_15_76_1 rfl rfl ?_
            refine ov_iast d_15_77 (yb_65 I76) (ys_65 I76) (by omega) ?_
            have I104 := yu_65 (k := x1) (x := (1 + 2)) I76 (by omega)
            refine ov_blk (ls2 := [(0, ov_r 58), (1, ov_i (x1 + 1))]) (st2 := []) (pc2 := 81) b_15_78_1 rfl rfl ?_
            refine ov_goto (tgt := 37) d_15_81 (by decide) ?_
            exact ih71 (x1 + 1) _ _ I104 E77 E78 E79 E80 E81 E82 (fun a ca => Eq.trans (by show (ov_up h75 65 x1 (1 + 2)) a = h75 a; rw [ov_up_ne (by omega)]) (fr83 a ca)) (fun j a b => if e : j = x1 then (by rw [e]; show ov_up _ 65 _ _ 65 _ = tw_opx (h 58) (h 59) (h 60) (h 62) (h 63) _; rw [ov_up_row, ov_rs_eq, ← (show h75 58 = h 58 from E77), ← (show h75 59 = h 59 from E78), ← (show h75 60 = h 60 from E79), ← (show h75 62 = h 62 from E80), ← (show h75 63 = h 63 from E81)]; unfold tw_opx; omega) else (by show ov_up _ 65 _ _ 65 j = tw_opx (h 58) (h 59) (h 60) (h 62) (h 63) j; rw [ov_up_row, ov_rs_ne e]; exact xj j a (by omega))) (by show 0 ≤ (x1 + 1) ∧ (x1 + 1) ≤ 54; omega) (by omega)
  exact L73 55 0 _ _ I55 E58 E59 E60 E61 E62 rfl (fun a ca => (fr64 a ca)) (fun j a b => by omega) (by show 0 ≤ 0 ∧ 0 ≤ 54; omega) (by omega)
theorem ov_R96_0 : ∀ j : Int, 0 ≤ j → j < 280 → ov_R96 j = pt_A0 1 1 j := fun j h0 h1 => by
  by_cases e0 : j = 0
  · subst e0; decide +kernel
  by_cases e1 : j = 1
  · subst e1; decide +kernel
  by_cases e2 : j = 2
  · subst e2; decide +kernel
  by_cases e3 : j = 3
  · subst e3; decide +kernel
  by_cases e4 : j = 4
  · subst e4; decide +kernel
  by_cases e9 : j = 9
  · subst e9; decide +kernel
  unfold ov_R96 pt_A0
  rw [ov_rs_ne e1, ov_rs_ne e0, ov_rs_ne e9, ov_rs_ne e4, ov_rs_ne e3, ov_rs_ne e2, if_neg e0, if_neg e1, if_neg e2, if_neg (by omega), if_neg e9]
theorem ov_TB_0 {r0 r1 r2 r3 r4 r5 r6 q0 q1 q2 q3 q4 q5 q6 q7 : Int → Int} (a : r0 0 = 1 ∧ r0 1 = 1 ∧ r0 8 = 0 ∧ r0 9 = 0 ∧ r0 10 = 1 ∧ r0 11 = 0) (y1 : ∀ c : Int, 0 ≤ c → c < 54 → r1 c = -1) (y5 : ∀ c : Int, 0 ≤ c → c < 54 → r5 c = 0) (y6 : ∀ c : Int, 0 ≤ c → c < 4 → r6 c = -1)
    (e0 : q0 = r0) (e1 : q1 = r1) (e2 : q2 = r2) (e3 : q3 = r3) (e4 : q4 = r4) (e5 : q5 = r5) (se : (r6 0 = -1 → q6 0 = 10) ∧ (¬ r6 0 = -1 → q6 0 = r6 0) ∧ (r6 1 = -1 → q6 1 = q6 0) ∧ (¬ r6 1 = -1 → q6 1 = r6 1) ∧ (r6 2 = -1 → q6 2 = q6 0) ∧ (¬ r6 2 = -1 → q6 2 = r6 2) ∧ (r6 3 = -1 → q6 3 = 0) ∧ (¬ r6 3 = -1 → q6 3 = r6 3)) (op : ∀ j : Int, 0 ≤ j → j < 54 → q7 j = tw_opx r0 r1 r2 r4 r5 j) : tw_TB ov_R96 q0 q1 q2 q3 q4 q5 q6 q7 := by
  have K := pt_CR_first (t := fun _ => 0) (m := 0) (w := 1) (l := 1) (r2 := r2) (r3 := r3) (r4 := r4) (r8 := fun _ => 0) (by decide) (by decide) a.1 a.2.1 a.2.2.1 a.2.2.2.1 a.2.2.2.2.1 a.2.2.2.2.2 y1 y5 y6
  refine ov_TB_cg (ov_TB_cr K (pt_DF_0 (by decide) (by decide)) e0 e1 e2 e3 e4 e5 se (fun j h0 h1 => ?_)) ov_R96_0
  rw [e0, e1, e2, e4, e5]
  exact op j h0 h1
set_option maxHeartbeats 4000000 in
theorem i_OF_0_t {u : ov_U} {z : ov_Z} {h : ov_H} (d : Nat) (hd : 20 ≤ d) (U : ov_cap u) (C : ov_SH 1 z) (hr : h 0 = ov_df 0) : ov_T u d ov_m0 [ov_r 0] z h (fun r0 z' h' => r0 = none ∧ ov_SH 90 z' ∧ (∀ b : Int, b < 0 → h' b = h b) ∧ (∀ b : Int, 0 ≤ b → b < 90 → (b < 58 ∨ 69 < b) → h' b = ov_T0 b) ∧ (∀ a k : Int, 58 ≤ a → a ≤ 69 → ov_pr a.toNat k (h' a k)) ∧ 0 ≤ h' 64 0 ∧ h' 58 0 = 1 ∧ h' 58 1 = 1 ∧ tw_TB ov_R96 (h' 58) (h' 59) (h' 60) (h' 61) (h' 62) (h' 63) (h' 64) (h' 65)) := by
  refine ov_en rfl (Nat.le_of_ble_eq_true rfl) ?_
  show ov_R u d ov_m0 0 [(0, ov_r 0)] [] z h _
  have B := ov_BL_ini (a := 0) C rfl (by decide) hr
  refine ov_blk (ls2 := [(0, ov_r 0)]) (st2 := [ov_r 0]) (pc2 := 1) b_0_0_1 rfl rfl ?_
  refine ov_obi d_0_1 oi_OF_3 (by decide) (by omega) (Nat.le_of_ble_eq_true rfl) ?_
  refine ov_blk (ls2 := [(0, ov_r 0)]) (st2 := [ov_r 0]) (pc2 := 5) b_0_4_1 rfl rfl ?_
  refine ov_Bnew U B (c := 8) (Ni := 1) (N := 1) d_0_5 nl_OF_9 rfl (by decide +kernel) (by decide +kernel) (by decide +kernel) (fun z1 h2 C3 k4 r5 => ?_)
  refine ov_blk (ls2 := [(0, ov_r 0)]) (st2 := [ov_r 1, ov_r 1, ov_r 0]) (pc2 := 9) b_0_8_1 rfl rfl ?_
  refine ov_cIN (as := []) (st := [ov_r 1, ov_r 0]) (d2 := d - 1) rfl d_0_9 lk_OF_11 rfl (Nat.le_of_ble_eq_true rfl) (by decide) (by omega) (i_Tape_1 (d - 1) (by omega) U C3 r5) ?_
  rintro _ z6 h7 ⟨rfl, C8, k9, t10⟩
  have B11 := ov_BL_sub B C8 (by decide) (fun b hb => by rw [k9 b (by omega)]; exact k4 b hb) (fun b h1 h2 => t10 b (by omega) (by omega))
  show ov_R u d ov_m0 12 [(0, ov_r 0)] [ov_r 1, ov_r 0] z6 h7 _
  refine ov_BputF B11 (n := 14) (x := 1) d_0_12 fl_OF_12 rfl rfl nk_2 rfl rfl rfl (fun h12 B13 => ?_)
  refine ov_blk (ls2 := [(0, ov_r 0)]) (st2 := [ov_r 0]) (pc2 := 16) b_0_15_1 rfl rfl ?_
  refine ov_Bnew U B13 (c := 6) (Ni := 3) (N := 3) d_0_16 nl_OF_16 rfl (by decide +kernel) (by decide +kernel) (by decide +kernel) (fun z14 h15 C16 k17 r18 => ?_)
  refine ov_blk (ls2 := [(0, ov_r 0)]) (st2 := [ov_r 0, ov_r 3, ov_r 3, ov_r 0]) (pc2 := 21) b_0_19_2 rfl rfl ?_
  refine ov_getf (v := ov_r 1) d_0_21 fl_OF_12 ⟨by decide, by rw [C16.1]; decide⟩ (C16.2.2 0 (by decide) (by decide)) (congrArg ov_r (show h15 0 0 = 1 from (by rw [k17 0 (by decide), B13.2.2.2.1]; rfl))) ?_
  refine ov_cI (as := [ov_r 1]) (st := [ov_r 3, ov_r 0]) (d2 := d - 1) rfl d_0_24 lk_OF_18 rfl (Nat.le_of_ble_eq_true rfl) (by decide) (by omega) (i_Reader_3 (d - 1) (by omega) U C16 r18) ?_
  rintro _ z19 h20 ⟨rfl, C21, k22, t23⟩
  have B24 := ov_BL_sub B13 C21 (by decide) (fun b hb => by rw [k22 b (by omega)]; exact k17 b hb) (fun b h1 h2 => t23 b (by omega) (by omega))
  show ov_R u d ov_m0 27 [(0, ov_r 0)] [ov_r 3, ov_r 0] z19 h20 _
  refine ov_BputF B24 (n := 14) (x := 3) d_0_27 fl_OF_21 rfl rfl nk_2 rfl rfl rfl (fun h25 B26 => ?_)
  refine ov_blk (ls2 := [(0, ov_r 0)]) (st2 := [ov_r 0]) (pc2 := 31) b_0_30_1 rfl rfl ?_
  refine ov_Bnew U B26 (c := 7) (Ni := 4) (N := 4) d_0_31 nl_OF_25 rfl (by decide +kernel) (by decide +kernel) (by decide +kernel) (fun z27 h28 C29 k30 r31 => ?_)
  refine ov_blk (ls2 := [(0, ov_r 0)]) (st2 := [ov_r 4, ov_r 4, ov_r 0]) (pc2 := 35) b_0_34_1 rfl rfl ?_
  refine ov_cIN (as := []) (st := [ov_r 4, ov_r 0]) (d2 := d - 1) rfl d_0_35 lk_OF_27 rfl (Nat.le_of_ble_eq_true rfl) (by decide) (by omega) (i_State_4 (d - 1) (by omega) U C29 r31) ?_
  rintro _ z32 h33 ⟨rfl, C34, k35, t36⟩
  have B37 := ov_BL_sub B26 C34 (by decide) (fun b hb => by rw [k35 b (by omega)]; exact k30 b hb) (fun b h1 h2 => t36 b (by omega) (by omega))
  show ov_R u d ov_m0 38 [(0, ov_r 0)] [ov_r 4, ov_r 0] z32 h33 _
  refine ov_BputF B37 (n := 14) (x := 4) d_0_38 fl_OF_28 rfl rfl nk_2 rfl rfl rfl (fun h38 B39 => ?_)
  refine ov_blk (ls2 := [(0, ov_r 0)]) (st2 := [ov_r 0]) (pc2 := 42) b_0_41_1 rfl rfl ?_
  refine ov_Bnew U B39 (c := 3) (Ni := 9) (N := 9) d_0_42 nl_OF_32 rfl (by decide +kernel) (by decide +kernel) (by decide +kernel) (fun z40 h41 C42 k43 r44 => ?_)
  refine ov_blk (ls2 := [(0, ov_r 0)]) (st2 := [ov_r 9, ov_r 9, ov_r 0]) (pc2 := 46) b_0_45_1 rfl rfl ?_
  refine ov_cIN (as := []) (st := [ov_r 9, ov_r 0]) (d2 := d - 1) rfl d_0_46 lk_OF_34 rfl (Nat.le_of_ble_eq_true rfl) (by decide) (by omega) (i_History_9 (d - 1) (by omega) U C42 r44) ?_
  rintro _ z45 h46 ⟨rfl, C47, k48, t49⟩
  have B50 := ov_BL_sub B39 C47 (by decide) (fun b hb => by rw [k48 b (by omega)]; exact k43 b hb) (fun b h1 h2 => t49 b (by omega) (by omega))
  show ov_R u d ov_m0 49 [(0, ov_r 0)] [ov_r 9, ov_r 0] z45 h46 _
  refine ov_BputF B50 (n := 14) (x := 9) d_0_49 fl_OF_35 rfl rfl nk_2 rfl rfl rfl (fun h51 B52 => ?_)
  refine ov_blk (ls2 := [(0, ov_r 0)]) (st2 := [ov_i 4, ov_r 0]) (pc2 := 54) b_0_52_2 rfl rfl ?_
  refine ov_BanwH U B52 (n := 4) (Ni := 14) (N := 14) d_0_54 nl_OF_25.2.1 (by decide) rfl (by decide +kernel) (by decide +kernel) (by decide +kernel) (fun z53 h54 B55 => ?_)
  refine ov_blk (ls2 := [(0, ov_r 0)]) (st2 := [ov_i 0, ov_r 14, ov_r 14, ov_r 0]) (pc2 := 59) b_0_57_2 rfl rfl ?_
  refine ov_Bnew U B55 (c := 7) (Ni := 15) (N := 15) d_0_59 nl_OF_25 rfl (by decide +kernel) (by decide +kernel) (by decide +kernel) (fun z56 h57 C58 k59 r60 => ?_)
  refine ov_blk (ls2 := [(0, ov_r 0)]) (st2 := [ov_r 15, ov_r 15, ov_i 0, ov_r 14, ov_r 14, ov_r 0]) (pc2 := 63) b_0_62_1 rfl rfl ?_
  refine ov_cIN (as := []) (st := [ov_r 15, ov_i 0, ov_r 14, ov_r 14, ov_r 0]) (d2 := d - 1) rfl d_0_63 lk_OF_27 rfl (Nat.le_of_ble_eq_true rfl) (by decide) (by omega) (i_State_15 (d - 1) (by omega) U C58 r60) ?_
  rintro _ z61 h62 ⟨rfl, C63, k64, t65⟩
  have B66 := ov_BL_sub B55 C63 (by decide) (fun b hb => by rw [k64 b (by omega)]; exact k59 b hb) (fun b h1 h2 => t65 b (by omega) (by omega))
  show ov_R u d ov_m0 66 [(0, ov_r 0)] [ov_r 15, ov_i 0, ov_r 14, ov_r 14, ov_r 0] z61 h62 _
  refine ov_Baas B66 (n := 4) (nx := 10) (i := 0) (x := 15) d_0_66 (by decide) rfl (by decide) (by decide) rfl (fun h67 B68 => ?_)
  refine ov_blk (ls2 := [(0, ov_r 0)]) (st2 := [ov_i 1, ov_r 14, ov_r 14, ov_r 0]) (pc2 := 69) b_0_67_2 rfl rfl ?_
  refine ov_Bnew U B68 (c := 7) (Ni := 20) (N := 20) d_0_69 nl_OF_25 rfl (by decide +kernel) (by decide +kernel) (by decide +kernel) (fun z69 h70 C71 k72 r73 => ?_)
  refine ov_blk (ls2 := [(0, ov_r 0)]) (st2 := [ov_r 20, ov_r 20, ov_i 1, ov_r 14, ov_r 14, ov_r 0]) (pc2 := 73) b_0_72_1 rfl rfl ?_
  refine ov_cIN (as := []) (st := [ov_r 20, ov_i 1, ov_r 14, ov_r 14, ov_r 0]) (d2 := d - 1) rfl d_0_73 lk_OF_27 rfl (Nat.le_of_ble_eq_true rfl) (by decide) (by omega) (i_State_20 (d - 1) (by omega) U C71 r73) ?_
  rintro _ z74 h75 ⟨rfl, C76, k77, t78⟩
  have B79 := ov_BL_sub B68 C76 (by decide) (fun b hb => by rw [k77 b (by omega)]; exact k72 b hb) (fun b h1 h2 => t78 b (by omega) (by omega))
  show ov_R u d ov_m0 76 [(0, ov_r 0)] [ov_r 20, ov_i 1, ov_r 14, ov_r 14, ov_r 0] z74 h75 _
  refine ov_Baas B79 (n := 4) (nx := 10) (i := 1) (x := 20) d_0_76 (by decide) rfl (by decide) (by decide) rfl (fun h80 B81 => ?_)
  refine ov_blk (ls2 := [(0, ov_r 0)]) (st2 := [ov_i 2, ov_r 14, ov_r 14, ov_r 0]) (pc2 := 79) b_0_77_2 rfl rfl ?_
  refine ov_Bnew U B81 (c := 7) (Ni := 25) (N := 25) d_0_79 nl_OF_25 rfl (by decide +kernel) (by decide +kernel) (by decide +kernel) (fun z82 h83 C84 k85 r86 => ?_)
  refine ov_blk (ls2 := [(0, ov_r 0)]) (st2 := [ov_r 25, ov_r 25, ov_i 2, ov_r 14, ov_r 14, ov_r 0]) (pc2 := 83) b_0_82_1 rfl rfl ?_
  refine ov_cIN (as := []) (st := [ov_r 25, ov_i 2, ov_r 14, ov_r 14, ov_r 0]) (d2 := d - 1) rfl d_0_83 lk_OF_27 rfl (Nat.le_of_ble_eq_true rfl) (by decide) (by omega) (i_State_25 (d - 1) (by omega) U C84 r86) ?_
  rintro _ z87 h88 ⟨rfl, C89, k90, t91⟩
  have B92 := ov_BL_sub B81 C89 (by decide) (fun b hb => by rw [k90 b (by omega)]; exact k85 b hb) (fun b h1 h2 => t91 b (by omega) (by omega))
  show ov_R u d ov_m0 86 [(0, ov_r 0)] [ov_r 25, ov_i 2, ov_r 14, ov_r 14, ov_r 0] z87 h88 _
  refine ov_Baas B92 (n := 4) (nx := 10) (i := 2) (x := 25) d_0_86 (by decide) rfl (by decide) (by decide) rfl (fun h93 B94 => ?_)
  refine ov_blk (ls2 := [(0, ov_r 0)]) (st2 := [ov_i 3, ov_r 14, ov_r 14, ov_r 0]) (pc2 := 89) b_0_87_2 rfl rfl ?_
  refine ov_Bnew U B94 (c := 7) (Ni := 30) (N := 30) d_0_89 nl_OF_25 rfl (by decide +kernel) (by decide +kernel) (by decide +kernel) (fun z95 h96 C97 k98 r99 => ?_)
  refine ov_blk (ls2 := [(0, ov_r 0)]) (st2 := [ov_r 30, ov_r 30, ov_i 3, ov_r 14, ov_r 14, ov_r 0]) (pc2 := 93) b_0_92_1 rfl rfl ?_
  refine ov_cIN (as := []) (st := [ov_r 30, ov_i 3, ov_r 14, ov_r 14, ov_r 0]) (d2 := d - 1) rfl d_0_93 lk_OF_27 rfl (Nat.le_of_ble_eq_true rfl) (by decide) (by omega) (i_State_30 (d - 1) (by omega) U C97 r99) ?_
  rintro _ z100 h101 ⟨rfl, C102, k103, t104⟩
  have B105 := ov_BL_sub B94 C102 (by decide) (fun b hb => by rw [k103 b (by omega)]; exact k98 b hb) (fun b h1 h2 => t104 b (by omega) (by omega))
  show ov_R u d ov_m0 96 [(0, ov_r 0)] [ov_r 30, ov_i 3, ov_r 14, ov_r 14, ov_r 0] z100 h101 _
  refine ov_Baas B105 (n := 4) (nx := 10) (i := 3) (x := 30) d_0_96 (by decide) rfl (by decide) (by decide) rfl (fun h106 B107 => ?_)
  refine ov_BputF B107 (n := 14) (x := 14) d_0_97 fl_OF_39 rfl rfl nk_2 rfl rfl rfl (fun h108 B109 => ?_)
  have B110 := ov_BL_close B109 (by decide) rfl
  refine ov_blk (ls2 := [(0, ov_r 0)]) (st2 := [ov_i 4, ov_r 0]) (pc2 := 102) b_0_100_2 rfl rfl ?_
  refine ov_Bnewz U B110 (n := 4) (Ni := 35) (N := 35) d_0_102 (by decide) rfl (by decide +kernel) (by decide +kernel) rfl (by decide +kernel) (fun z111 h112 B113 => ?_)
  refine ov_BputF B113 (n := 14) (x := 35) d_0_104 fl_OF_43 rfl rfl nk_2 rfl rfl rfl (fun h114 B115 => ?_)
  refine ov_blk (ls2 := [(0, ov_r 0)]) (st2 := [ov_r 0]) (pc2 := 108) b_0_107_1 rfl rfl ?_
  refine ov_Bnew U B115 (c := 2) (Ni := 36) (N := 36) d_0_108 nl_OF_47 rfl (by decide +kernel) (by decide +kernel) (by decide +kernel) (fun z116 h117 C118 k119 r120 => ?_)
  refine ov_blk (ls2 := [(0, ov_r 0)]) (st2 := [ov_r 36, ov_r 36, ov_r 0]) (pc2 := 112) b_0_111_1 rfl rfl ?_
  refine ov_cIN (as := []) (st := [ov_r 36, ov_r 0]) (d2 := d - 1) rfl d_0_112 lk_OF_49 rfl (Nat.le_of_ble_eq_true rfl) (by decide) (by omega) (i_Goers_36 (d - 1) (by omega) U C118 r120) ?_
  rintro _ z121 h122 ⟨rfl, C123, k124, t125⟩
  have B126 := ov_BL_sub B115 C123 (by decide) (fun b hb => by rw [k124 b (by omega)]; exact k119 b hb) (fun b h1 h2 => t125 b (by omega) (by omega))
  show ov_R u d ov_m0 115 [(0, ov_r 0)] [ov_r 36, ov_r 0] z121 h122 _
  refine ov_BputF B126 (n := 14) (x := 36) d_0_115 fl_OF_50 rfl rfl nk_2 rfl rfl rfl (fun h127 B128 => ?_)
  refine ov_blk (ls2 := [(0, ov_r 0)]) (st2 := [ov_r 0]) (pc2 := 119) b_0_118_1 rfl rfl ?_
  refine ov_Bnew U B128 (c := 12) (Ni := 46) (N := 46) d_0_119 nl_OF_54 rfl (by decide +kernel) (by decide +kernel) (by decide +kernel) (fun z129 h130 C131 k132 r133 => ?_)
  refine ov_blk (ls2 := [(0, ov_r 0)]) (st2 := [ov_r 46, ov_r 46, ov_r 0]) (pc2 := 123) b_0_122_1 rfl rfl ?_
  refine ov_cIN (as := []) (st := [ov_r 46, ov_r 0]) (d2 := d - 1) rfl d_0_123 lk_OF_56 rfl (Nat.le_of_ble_eq_true rfl) (by decide) (by omega) (i_Ways_46 (d - 1) (by omega) U C131 r133) ?_
  rintro _ z134 h135 ⟨rfl, C136, k137, t138⟩
  have B139 := ov_BL_sub B128 C136 (by decide) (fun b hb => by rw [k137 b (by omega)]; exact k132 b hb) (fun b h1 h2 => t138 b (by omega) (by omega))
  show ov_R u d ov_m0 126 [(0, ov_r 0)] [ov_r 46, ov_r 0] z134 h135 _
  refine ov_BputF B139 (n := 14) (x := 46) d_0_126 fl_OF_57 rfl rfl nk_2 rfl rfl rfl (fun h140 B141 => ?_)
  refine ov_blk (ls2 := [(0, ov_r 0)]) (st2 := [ov_r 0]) (pc2 := 130) b_0_129_1 rfl rfl ?_
  refine ov_Bnew U B141 (c := 5) (Ni := 49) (N := 49) d_0_130 nl_OF_61 rfl (by decide +kernel) (by decide +kernel) (by decide +kernel) (fun z142 h143 C144 k145 r146 => ?_)
  refine ov_blk (ls2 := [(0, ov_r 0)]) (st2 := [ov_r 49, ov_r 49, ov_r 0]) (pc2 := 134) b_0_133_1 rfl rfl ?_
  refine ov_cIN (as := []) (st := [ov_r 49, ov_r 0]) (d2 := d - 1) rfl d_0_134 lk_OF_63 rfl (Nat.le_of_ble_eq_true rfl) (by decide) (by omega) (i_Pace_49 (d - 1) (by omega) U C144 r146) ?_
  rintro _ z147 h148 ⟨rfl, C149, k150, t151⟩
  have B152 := ov_BL_sub B141 C149 (by decide) (fun b hb => by rw [k150 b (by omega)]; exact k145 b hb) (fun b h1 h2 => t151 b (by omega) (by omega))
  show ov_R u d ov_m0 137 [(0, ov_r 0)] [ov_r 49, ov_r 0] z147 h148 _
  refine ov_BputF B152 (n := 14) (x := 49) d_0_137 fl_OF_64 rfl rfl nk_2 rfl rfl rfl (fun h153 B154 => ?_)
  refine ov_blk (ls2 := [(0, ov_r 0)]) (st2 := [ov_r 0]) (pc2 := 141) b_0_140_1 rfl rfl ?_
  refine ov_Bnew U B154 (c := 11) (Ni := 54) (N := 54) d_0_141 nl_OF_68 rfl (by decide +kernel) (by decide +kernel) (by decide +kernel) (fun z155 h156 C157 k158 r159 => ?_)
  refine ov_blk (ls2 := [(0, ov_r 0)]) (st2 := [ov_r 54, ov_r 54, ov_r 0]) (pc2 := 145) b_0_144_1 rfl rfl ?_
  refine ov_cIN (as := []) (st := [ov_r 54, ov_r 0]) (d2 := d - 1) rfl d_0_145 lk_OF_70 rfl (Nat.le_of_ble_eq_true rfl) (by decide) (by omega) (i_Wave_54 (d - 1) (by omega) U C157 r159) ?_
  rintro _ z160 h161 ⟨rfl, C162, k163, t164⟩
  have B165 := ov_BL_sub B154 C162 (by decide) (fun b hb => by rw [k163 b (by omega)]; exact k158 b hb) (fun b h1 h2 => t164 b (by omega) (by omega))
  show ov_R u d ov_m0 148 [(0, ov_r 0)] [ov_r 54, ov_r 0] z160 h161 _
  refine ov_BputF B165 (n := 14) (x := 54) d_0_148 fl_OF_71 rfl rfl nk_2 rfl rfl rfl (fun h166 B167 => ?_)
  refine ov_blk (ls2 := [(0, ov_r 0)]) (st2 := [ov_r 0]) (pc2 := 152) b_0_151_1 rfl rfl ?_
  refine ov_Bnew U B167 (c := 9) (Ni := 58) (N := 58) d_0_152 nl_OF_75 rfl (by decide +kernel) (by decide +kernel) (by decide +kernel) (fun z168 h169 C170 k171 r172 => ?_)
  refine ov_blk (ls2 := [(0, ov_r 0)]) (st2 := [ov_r 58, ov_r 58, ov_r 0]) (pc2 := 156) b_0_155_1 rfl rfl ?_
  refine ov_cIN (as := []) (st := [ov_r 58, ov_r 0]) (d2 := d - 1) rfl d_0_156 lk_OF_77 rfl (Nat.le_of_ble_eq_true rfl) (by decide) (by omega) (i_Town_58 (d - 1) (by omega) U C170 r172) ?_
  rintro _ z173 h174 ⟨rfl, C175, k176, t177⟩
  have B178 := ov_BL_sub B167 C175 (by decide) (fun b hb => by rw [k176 b (by omega)]; exact k171 b hb) (fun b h1 h2 => t177 b (by omega) (by omega))
  show ov_R u d ov_m0 159 [(0, ov_r 0)] [ov_r 58, ov_r 0] z173 h174 _
  refine ov_Bput B178 (n := 14) (x := 58) d_0_159 fl_OF_78 rfl rfl nk_2 rfl (fun h179 B180 => ?_)
  refine ov_blk (ls2 := [(0, ov_r 0)]) (st2 := [ov_r 0]) (pc2 := 163) b_0_162_1 rfl rfl ?_
  refine ov_Bnew U B180 (c := 9) (Ni := 70) (N := 70) d_0_163 nl_OF_75 rfl (by decide +kernel) (by decide +kernel) (by decide +kernel) (fun z181 h182 C183 k184 r185 => ?_)
  refine ov_blk (ls2 := [(0, ov_r 0)]) (st2 := [ov_r 70, ov_r 70, ov_r 0]) (pc2 := 167) b_0_166_1 rfl rfl ?_
  refine ov_cIN (as := []) (st := [ov_r 70, ov_r 0]) (d2 := d - 1) rfl d_0_167 lk_OF_77 rfl (Nat.le_of_ble_eq_true rfl) (by decide) (by omega) (i_Town_70 (d - 1) (by omega) U C183 r185) ?_
  rintro _ z186 h187 ⟨rfl, C188, k189, t190⟩
  have B191 := ov_BL_sub B180 C188 (by decide) (fun b hb => by rw [k189 b (by omega)]; exact k184 b hb) (fun b h1 h2 => t190 b (by omega) (by omega))
  show ov_R u d ov_m0 170 [(0, ov_r 0)] [ov_r 70, ov_r 0] z186 h187 _
  refine ov_Bput B191 (n := 14) (x := 70) d_0_170 fl_OF_82 rfl rfl nk_2 rfl (fun h192 B193 => ?_)
  refine ov_blk (ls2 := [(0, ov_r 0)]) (st2 := [ov_r 0]) (pc2 := 174) b_0_173_1 rfl rfl ?_
  refine ov_Bnew U B193 (c := 10) (Ni := 82) (N := 82) d_0_174 nl_OF_85 rfl (by decide +kernel) (by decide +kernel) (by decide +kernel) (fun z194 h195 C196 k197 r198 => ?_)
  refine ov_blk (ls2 := [(0, ov_r 0)]) (st2 := [ov_r 82, ov_r 82, ov_r 0]) (pc2 := 178) b_0_177_1 rfl rfl ?_
  refine ov_cIN (as := []) (st := [ov_r 82, ov_r 0]) (d2 := d - 1) rfl d_0_178 lk_OF_87 rfl (Nat.le_of_ble_eq_true rfl) (by decide) (by omega) (i_Walk_82 (d - 1) (by omega) U C196 r198) ?_
  rintro _ z199 h200 ⟨rfl, C201, k202, t203⟩
  have B204 := ov_BL_sub B193 C201 (by decide) (fun b hb => by rw [k202 b (by omega)]; exact k197 b hb) (fun b h1 h2 => t203 b (by omega) (by omega))
  show ov_R u d ov_m0 181 [(0, ov_r 0)] [ov_r 82, ov_r 0] z199 h200 _
  refine ov_Bput B204 (n := 14) (x := 82) d_0_181 fl_OF_88 rfl rfl nk_2 rfl (fun h205 B206 => ?_)
  refine ov_blk (ls2 := [(0, ov_r 0)]) (st2 := [ov_r 0]) (pc2 := 185) b_0_184_1 rfl rfl ?_
  refine ov_Bnew U B206 (c := 10) (Ni := 86) (N := 86) d_0_185 nl_OF_85 rfl (by decide +kernel) (by decide +kernel) (by decide +kernel) (fun z207 h208 C209 k210 r211 => ?_)
  refine ov_blk (ls2 := [(0, ov_r 0)]) (st2 := [ov_r 86, ov_r 86, ov_r 0]) (pc2 := 189) b_0_188_1 rfl rfl ?_
  refine ov_cIN (as := []) (st := [ov_r 86, ov_r 0]) (d2 := d - 1) rfl d_0_189 lk_OF_87 rfl (Nat.le_of_ble_eq_true rfl) (by decide) (by omega) (i_Walk_86 (d - 1) (by omega) U C209 r211) ?_
  rintro _ z212 h213 ⟨rfl, C214, k215, t216⟩
  have B217 := ov_BL_sub B206 C214 (by decide) (fun b hb => by rw [k215 b (by omega)]; exact k210 b hb) (fun b h1 h2 => t216 b (by omega) (by omega))
  show ov_R u d ov_m0 192 [(0, ov_r 0)] [ov_r 86, ov_r 0] z212 h213 _
  refine ov_Bput B217 (n := 14) (x := 86) d_0_192 fl_OF_92 rfl rfl nk_2 rfl (fun h218 B219 => ?_)
  have Y0 : ov_Y (h218, z212) z212 h218 := ⟨rfl, ⟨by rw [B219.1.1]; decide, fun a h0 h1 => B219.1.2.2 a (by omega) (by omega)⟩, fun a k h0 h1 => by
    rw [B219.2.2.1 a (by omega) (by omega) (by omega)]
    have q := ov_T0_ok a.toNat k (by omega)
    rw [Int.toNat_of_nonneg (by omega)] at q
    exact q, fun _ _ => rfl⟩
  refine ov_blk (ls2 := [(0, ov_r 0)]) (st2 := [ov_r 0]) (pc2 := 196) b_0_195_1 rfl rfl ?_
  refine ov_getf (v := ov_r 58) d_0_196 fl_OF_78 ⟨by decide, by rw [B219.1.1]; decide⟩ (B219.1.2.2 0 (by decide) (by decide)) (congrArg ov_r (show h218 0 10 = 58 from (by rw [B219.2.2.2.1]; rfl))) ?_
  refine ov_cV (as := []) (st := []) (d2 := d - 1) d_0_199 lk_OF_95 rfl (Nat.le_of_ble_eq_true rfl) (c := 9) (yb_58 Y0) (ys_58 Y0) ⟨by decide, rfl⟩ (by omega) (cy_fTown_clear_58 (d - 1) (by omega) U Y0) ?_
  rintro _ z7 h7 ⟨rfl, Y7, u7, f7, k1, k5, k6⟩
  have g7 : h7 58 0 = 1 ∧ h7 58 1 = 1 := ⟨f7.1, f7.2.1⟩
  obtain rfl : z7 = z212 := Y7.1
  have e7 : h7 0 = h218 0 := Y7.2.2.2 0 (Or.inl (by decide))
  show ov_R u d ov_m0 202 [(0, ov_r 0)] [] _ h7 _
  refine ov_blk (ls2 := [(0, ov_r 0)]) (st2 := [ov_r 0]) (pc2 := 203) b_0_202_1 rfl rfl ?_
  refine ov_getf (v := ov_r 58) d_0_203 fl_OF_78 ⟨by decide, by rw [B219.1.1]; decide⟩ (B219.1.2.2 0 (by decide) (by decide)) (congrArg ov_r (show h7 0 10 = 58 from (by rw [e7, B219.2.2.2.1]; rfl))) ?_
  refine ov_cV (as := []) (st := []) (d2 := d - 1) d_0_206 lk_OF_98 rfl (Nat.le_of_ble_eq_true rfl) (c := 9) (yb_58 Y7) (ys_58 Y7) ⟨by decide, rfl⟩ (by omega) (cy_fTown_complete_58 (d - 1) (by omega) U Y7) ?_
  rintro _ z8 h8 ⟨rfl, Y8, u8, f8, se, op⟩
  have g8 : 0 ≤ h8 64 0 ∧ h8 58 0 = h7 58 0 ∧ h8 58 1 = h7 58 1 := ⟨f8, congrFun (u8 58 (by decide)) 0, congrFun (u8 58 (by decide)) 1⟩
  obtain rfl : z8 = _ := Y8.1
  show ov_R u d ov_m0 209 [(0, ov_r 0)] [] _ h8 _
  refine ov_retv (st := []) d_0_209 rfl ⟨rfl, B219.1, fun b hb => by rw [Y8.2.2.2 b (Or.inl (by omega))]; exact B219.2.1 b hb, fun b h0 h1 h2 => ?_, Y8.2.2.1, g8.1, by omega, by omega, ov_TB_0 f7 k1 k5 k6 (u8 58 (by decide)) (u8 59 (by decide)) (u8 60 (by decide)) (u8 61 (by decide)) (u8 62 (by decide)) (u8 63 (by decide)) se op⟩
  show h8 b = ov_T0 b
  rw [Y8.2.2.2 b h2]
  show h218 b = ov_T0 b
  by_cases eb : b = 0
  · rw [eb, B219.2.2.2.1]
    rfl
  · exact B219.2.2.1 b (by omega) h1 (by omega)

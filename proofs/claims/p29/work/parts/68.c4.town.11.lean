abbrev P_fTown_clear_70 (F : ov_H) (z : ov_Z) (h : ov_H) : Option ov_V → ov_Z → ov_H → Prop := fun r0 z' h' => r0 = none ∧ ov_I F z' h' ∧ (∀ a : Int, (a < 70 ∨ 71 < a) ∧ (a < 75 ∨ 76 < a) → h' a = h a) ∧ ((h' 70 0) = 1 ∧ (h' 70 1) = 1 ∧ (h' 70 8) = 0 ∧ (h' 70 9) = 0 ∧ (h' 70 10) = 1 ∧ (h' 70 11) = 0) ∧ (∀ k : Int, 0 ≤ k → k < 54 → (h' 71) k = -1) ∧ (∀ k : Int, 0 ≤ k → k < 54 → (h' 75) k = 0) ∧ (∀ k : Int, 0 ≤ k → k < 4 → (h' 76) k = -1)
set_option maxHeartbeats 4000000 in
theorem c_fTown_clear_70 {u : ov_U} {F : ov_H} {z : ov_Z} {h : ov_H} (d : Nat) (hd : 1 ≤ d) (U : ov_cap u) (I : ov_I F z h) (hw : ov_kw 116878570451023719038976 F) : ov_T u d ov_m13 [ov_r 70] z h (P_fTown_clear_70 F z h) := by
  refine ov_en rfl (Nat.le_of_ble_eq_true rfl) ?_
  show ov_R u d ov_m13 0 [(0, ov_r 70)] [] z h (P_fTown_clear_70 F z h)
  refine ov_blk (ls2 := [(0, ov_r 70)]) (st2 := [ov_i 1, ov_r 70]) (pc2 := 2) b_13_0_2 rfl rfl ?_
  refine ov_putf (x := 1) d_13_2 fl_Town_46 (zb_70 I) (zs_70 I) rfl nk_0 rfl ?_
  have I1 := up_70_0 (x := 1) I (by omega) (hw 70 (by decide +kernel))
  show ov_R u d ov_m13 5 [(0, ov_r 70)] [] z (ov_up h 70 0 1) (P_fTown_clear_70 F z h)
  refine ov_blk (ls2 := [(0, ov_r 70)]) (st2 := [ov_i 1, ov_r 70]) (pc2 := 7) b_13_5_2 rfl rfl ?_
  refine ov_putf (x := 1) d_13_7 fl_Town_50 (zb_70 I1) (zs_70 I1) rfl nk_0 rfl ?_
  have I2 := up_70_1 (x := 1) I1 (by omega) (hw 70 (by decide +kernel))
  show ov_R u d ov_m13 10 [(0, ov_r 70)] [] z (ov_up (ov_up h 70 0 1) 70 1 1) (P_fTown_clear_70 F z h)
  refine ov_blk (ls2 := [(0, ov_r 70)]) (st2 := [ov_r 70]) (pc2 := 11) b_13_10_1 rfl rfl ?_
  refine ov_getf (v := ov_r 71) d_13_11 fl_Town_9 (zb_70 I2) (zs_70 I2) (congrArg ov_r (rg_70_2 I2)) ?_
  refine ov_blk (ls2 := [(0, ov_r 70)]) (st2 := [ov_i (-1), ov_r 71]) (pc2 := 15) b_13_14_1 rfl rfl ?_
  refine ov_cS (as := [ov_r 71, ov_i (-1)]) (st := []) (d2 := d - 1) d_13_15 lk_Town_53 rfl (Nat.le_of_ble_eq_true rfl) (by omega) (c_fArrays_fill_AIIV_71 (d - 1) (by omega) U I2 (ov_kws hw (by decide +kernel)) (-1) (by omega) (by show -1 ≤ ((-1) : Int) ∧ ((-1) : Int) ≤ 3; omega)) ?_
  rintro _ z3 h4 ⟨rfl, I5, y6, y7⟩
  have R9 : h4 70 = (ov_rs (ov_rs (h 70) 0 1) 1 1) := Eq.trans (y6 70 (by decide)) (Eq.trans (ov_up_row (ov_up h 70 0 1) 70 1 1) (congrArg (fun f => ov_rs f 1 1) (Eq.trans (ov_up_row h 70 0 1) (congrArg (fun f => ov_rs f 0 1) rfl))))
  have E10 : h4 75 = h 75 := Eq.trans (y6 75 (by decide)) (show (ov_up (ov_up h 70 0 1) 70 1 1) 75 = h 75 from rfl)
  have E11 : h4 76 = h 76 := Eq.trans (y6 76 (by decide)) (show (ov_up (ov_up h 70 0 1) 70 1 1) 76 = h 76 from rfl)
  have fr12 : ∀ a : Int, (a < 70 ∨ 71 < a) ∧ (a < 75 ∨ 76 < a) → h4 a = h a := fun a ca => Eq.trans (y6 a (by omega)) (Eq.trans (by show (ov_up (ov_up h 70 0 1) 70 1 1) a = h a; rw [ov_up_ne (by omega), ov_up_ne (by omega)]) rfl)
  have y7_ : ∀ k : Int, 0 ≤ k → k < 54 → (h4 71) k = ((-1) : Int) := y7
  show ov_R u d ov_m13 18 [(0, ov_r 70)] [] z3 h4 (P_fTown_clear_70 F z h)
  refine ov_blk (ls2 := [(0, ov_r 70)]) (st2 := [ov_r 70]) (pc2 := 19) b_13_18_1 rfl rfl ?_
  refine ov_getf (v := ov_r 75) d_13_19 fl_Town_24 (zb_70 I5) (zs_70 I5) (congrArg ov_r (rg_70_6 I5)) ?_
  refine ov_blk (ls2 := [(0, ov_r 70)]) (st2 := [ov_i 0, ov_r 75]) (pc2 := 23) b_13_22_1 rfl rfl ?_
  refine ov_cS (as := [ov_r 75, ov_i 0]) (st := []) (d2 := d - 1) d_13_23 lk_Town_53 rfl (Nat.le_of_ble_eq_true rfl) (by omega) (c_fArrays_fill_AIIV_75 (d - 1) (by omega) U I5 (ov_kws hw (by decide +kernel)) 0 (by omega) (by show -1 ≤ (0 : Int) ∧ (0 : Int) ≤ 3; omega)) ?_
  rintro _ z13 h14 ⟨rfl, I15, y16, y17⟩
  have E18 : h14 70 = h4 70 := Eq.trans (y16 70 (by decide)) (show h4 70 = h4 70 from rfl)
  have E19 : h14 71 = h4 71 := Eq.trans (y16 71 (by decide)) (show h4 71 = h4 71 from rfl)
  have E20 : h14 76 = h 76 := Eq.trans (y16 76 (by decide)) (show h4 76 = h 76 from E11)
  have fr21 : ∀ a : Int, (a < 70 ∨ 71 < a) ∧ (a < 75 ∨ 76 < a) → h14 a = h a := fun a ca => Eq.trans (y16 a (by omega)) (fr12 a ca)
  have y17_ : ∀ k : Int, 0 ≤ k → k < 54 → (h14 75) k = (0 : Int) := y17
  show ov_R u d ov_m13 26 [(0, ov_r 70)] [] z13 h14 (P_fTown_clear_70 F z h)
  refine ov_blk (ls2 := [(0, ov_r 70)]) (st2 := [ov_r 70]) (pc2 := 27) b_13_26_1 rfl rfl ?_
  refine ov_getf (v := ov_r 76) d_13_27 fl_Town_27 (zb_70 I15) (zs_70 I15) (congrArg ov_r (rg_70_7 I15)) ?_
  refine ov_blk (ls2 := [(0, ov_r 70)]) (st2 := [ov_i (-1), ov_r 76]) (pc2 := 31) b_13_30_1 rfl rfl ?_
  refine ov_cS (as := [ov_r 76, ov_i (-1)]) (st := []) (d2 := d - 1) d_13_31 lk_Town_53 rfl (Nat.le_of_ble_eq_true rfl) (by omega) (c_fArrays_fill_AIIV_76 (d - 1) (by omega) U I15 (ov_kws hw (by decide +kernel)) (-1) (by omega) (by show -1 ≤ ((-1) : Int) ∧ ((-1) : Int) ≤ 3; omega)) ?_
  rintro _ z22 h23 ⟨rfl, I24, y25, y26⟩
  have E27 : h23 70 = h4 70 := Eq.trans (y25 70 (by decide)) (show h14 70 = h4 70 from E18)
  have E28 : h23 71 = h4 71 := Eq.trans (y25 71 (by decide)) (show h14 71 = h4 71 from E19)
  have E29 : h23 75 = h14 75 := Eq.trans (y25 75 (by decide)) (show h14 75 = h14 75 from rfl)
  have fr30 : ∀ a : Int, (a < 70 ∨ 71 < a) ∧ (a < 75 ∨ 76 < a) → h23 a = h a := fun a ca => Eq.trans (y25 a (by omega)) (fr21 a ca)
  have y26_ : ∀ k : Int, 0 ≤ k → k < 4 → (h23 76) k = ((-1) : Int) := y26
  show ov_R u d ov_m13 34 [(0, ov_r 70)] [] z22 h23 (P_fTown_clear_70 F z h)
  refine ov_blk (ls2 := [(0, ov_r 70)]) (st2 := [ov_i 0, ov_r 70]) (pc2 := 36) b_13_34_2 rfl rfl ?_
  refine ov_putf (x := 0) d_13_36 fl_Town_59 (zb_70 I24) (zs_70 I24) rfl (nk_3 (by omega)) rfl ?_
  have I31 := up_70_8 (x := 0) I24 (by omega) (hw 70 (by decide +kernel))
  show ov_R u d ov_m13 39 [(0, ov_r 70)] [] z22 (ov_up h23 70 8 0) (P_fTown_clear_70 F z h)
  refine ov_blk (ls2 := [(0, ov_r 70)]) (st2 := [ov_i 0, ov_r 70]) (pc2 := 41) b_13_39_2 rfl rfl ?_
  refine ov_putf (x := 0) d_13_41 fl_Town_63 (zb_70 I31) (zs_70 I31) rfl nk_0 rfl ?_
  have I32 := up_70_9 (x := 0) I31 (by omega) (hw 70 (by decide +kernel))
  show ov_R u d ov_m13 44 [(0, ov_r 70)] [] z22 (ov_up (ov_up h23 70 8 0) 70 9 0) (P_fTown_clear_70 F z h)
  refine ov_blk (ls2 := [(0, ov_r 70)]) (st2 := [ov_i 1, ov_r 70]) (pc2 := 46) b_13_44_2 rfl rfl ?_
  refine ov_putf (x := 1) d_13_46 fl_Town_66 (zb_70 I32) (zs_70 I32) rfl nk_0 rfl ?_
  have I33 := up_70_10 (x := 1) I32 (by omega) (hw 70 (by decide +kernel))
  show ov_R u d ov_m13 49 [(0, ov_r 70)] [] z22 (ov_up (ov_up (ov_up h23 70 8 0) 70 9 0) 70 10 1) (P_fTown_clear_70 F z h)
  refine ov_blk (ls2 := [(0, ov_r 70)]) (st2 := [ov_i 0, ov_r 70]) (pc2 := 51) b_13_49_2 rfl rfl ?_
  refine ov_putf (x := 0) d_13_51 fl_Town_69 (zb_70 I33) (zs_70 I33) rfl nk_0 rfl ?_
  have I34 := up_70_11 (x := 0) I33 (by omega) (hw 70 (by decide +kernel))
  show ov_R u d ov_m13 54 [(0, ov_r 70)] [] z22 (ov_up (ov_up (ov_up (ov_up h23 70 8 0) 70 9 0) 70 10 1) 70 11 0) (P_fTown_clear_70 F z h)
  refine ov_blk (ls2 := [(0, ov_r 70)]) (st2 := [ov_i 0, ov_r 70]) (pc2 := 56) b_13_54_2 rfl rfl ?_
  refine ov_putf (x := 0) d_13_56 fl_Town_72 (zb_70 I34) (zs_70 I34) rfl nk_0 rfl ?_
  have I35 := up_70_16 (x := 0) I34 (by omega) (hw 70 (by decide +kernel))
  show ov_R u d ov_m13 59 [(0, ov_r 70)] [] z22 (ov_up (ov_up (ov_up (ov_up (ov_up h23 70 8 0) 70 9 0) 70 10 1) 70 11 0) 70 16 0) (P_fTown_clear_70 F z h)
  have q36 : h23 70 0 = 1 := by rw [show h23 70 = (ov_rs (ov_rs (h 70) 0 1) 1 1) from (Eq.trans E27 R9), ov_rs_ne (by decide), ov_rs_eq]
  have q37 : h23 70 1 = 1 := by rw [show h23 70 = (ov_rs (ov_rs (h 70) 0 1) 1 1) from (Eq.trans E27 R9), ov_rs_eq]
  have q38 : h23 70 0 = 1 := by rw [show h23 70 = (ov_rs (ov_rs (h 70) 0 1) 1 1) from (Eq.trans E27 R9), ov_rs_ne (by decide), ov_rs_eq]
  have q39 : h23 70 1 = 1 := by rw [show h23 70 = (ov_rs (ov_rs (h 70) 0 1) 1 1) from (Eq.trans E27 R9), ov_rs_eq]
  exact ov_retv (st := []) d_13_59 rfl ⟨rfl, I35, (fun a ca => Eq.trans (by show (ov_up (ov_up (ov_up (ov_up (ov_up h23 70 8 0) 70 9 0) 70 10 1) 70 11 0) 70 16 0) a = h23 a; rw [ov_up_ne (by omega), ov_up_ne (by omega), ov_up_ne (by omega), ov_up_ne (by omega), ov_up_ne (by omega)]) (fr30 a ca)), (by show (h23 70 0) = 1 ∧ (h23 70 1) = 1 ∧ 0 = 0 ∧ 0 = 0 ∧ 1 = 1 ∧ 0 = 0; omega), (fun k a b => by rw [show (ov_up (ov_up (ov_up (ov_up (ov_up h23 70 8 0) 70 9 0) 70 10 1) 70 11 0) 70 16 0) 71 = h4 71 from E28]; exact y7_ k a b), (fun k a b => by rw [show (ov_up (ov_up (ov_up (ov_up (ov_up h23 70 8 0) 70 9 0) 70 10 1) 70 11 0) 70 16 0) 75 = h14 75 from E29]; exact y17_ k a b), (fun k a b => by rw [show (ov_up (ov_up (ov_up (ov_up (ov_up h23 70 8 0) 70 9 0) 70 10 1) 70 11 0) 70 16 0) 76 = h23 76 from rfl]; exact y26_ k a b)⟩

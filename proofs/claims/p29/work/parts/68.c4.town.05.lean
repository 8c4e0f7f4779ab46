abbrev P_fTown_setUnlessTold_58 (F : ov_H) (z : ov_Z) (h : ov_H) (w : Int) (v : Int) : Option ov_V → ov_Z → ov_H → Prop := fun r0 z' h' => r0 = none ∧ ov_I F z' h' ∧ (∀ a : Int, a ≠ 64 → h' a = h a) ∧ ((h' 64) = ov_rs (h 64) w (if (h 64) w = -1 then v else (h 64) w))
set_option maxHeartbeats 4000000 in
theorem c_fTown_setUnlessTold_58 {u : ov_U} {F : ov_H} {z : ov_Z} {h : ov_H} (d : Nat) (hd : 0 ≤ d) (U : ov_cap u) (I : ov_I F z h) (hw : ov_kw 18446744073709551616 F) (w : Int) (v : Int) (g_w : ov_g w) (g_v : ov_g v) (p0 : 0 ≤ w ∧ w ≤ 3) (p1 : 0 ≤ v ∧ v ≤ 30 ∧ (w = 3 → v ≤ 9)) : ov_T u d ov_m16 [ov_r 58, ov_i w, ov_i v] z h (P_fTown_setUnlessTold_58 F z h w v) := by
  refine ov_en rfl (Nat.le_of_ble_eq_true rfl) ?_
  show ov_R u d ov_m16 0 [(0, ov_r 58), (1, ov_i w), (2, ov_i v)] [] z h (P_fTown_setUnlessTold_58 F z h w v)
  refine ov_blk (ls2 := [(0, ov_r 58), (1, ov_i w), (2, ov_i v)]) (st2 := [ov_r 58]) (pc2 := 1) b_16_0_1 rfl rfl ?_
  refine ov_getf (v := ov_r 64) d_16_1 fl_Town_27 (zb_58 I) (zs_58 I) (congrArg ov_r (rg_58_7 I)) ?_
  refine ov_blk (ls2 := [(0, ov_r 58), (1, ov_i w), (2, ov_i v)]) (st2 := [ov_i w, ov_r 64]) (pc2 := 5) b_16_4_1 rfl rfl ?_
  refine ov_iald d_16_5 (zb_64 I) (zs_64 I) (by omega) ?_
  show ov_R u d ov_m16 6 [(0, ov_r 58), (1, ov_i w), (2, ov_i v)] [ov_i (h 64 w)] z h (P_fTown_setUnlessTold_58 F z h w v)
  have g1 := ra_64 I w
  refine ov_blk (ls2 := [(0, ov_r 58), (1, ov_i w), (2, ov_i v)]) (st2 := [ov_i (-1), ov_i (h 64 w)]) (pc2 := 7) b_16_6_1 rfl rfl ?_
  refine ov_icne (tgt := 17) d_16_7 (by decide) (by omega) (by omega) (fun c2 => ?_) (fun c2 => ?_)
  · skip
    exact ov_retv (st := []) d_16_17 rfl ⟨rfl, I, (fun a ca => rfl), (by rw [if_neg (show ¬ h 64 w = -1 by omega)]; funext j; unfold ov_rs; split <;> (first | rfl | (rename_i e; rw [e])))⟩
  · skip
    refine ov_blk (ls2 := [(0, ov_r 58), (1, ov_i w), (2, ov_i v)]) (st2 := [ov_r 58]) (pc2 := 11) b_16_10_1 rfl rfl ?_
    refine ov_getf (v := ov_r 64) d_16_11 fl_Town_27 (zb_58 I) (zs_58 I) (congrArg ov_r (rg_58_7 I)) ?_
    refine ov_blk (ls2 := [(0, ov_r 58), (1, ov_i w), (2, ov_i v)]) (st2 := [ov_i v, ov_i w, ov_r 64]) (pc2 := 16) b_16_14_2 rfl rfl ?_
    refine ov_iast d_16_16 (zb_64 I) (zs_64 I) (by omega) ?_
    have I3 := ua_64 (k := w) (x := v) I (by omega) (hw 64 (by decide +kernel))
    exact ov_retv (st := []) d_16_17 rfl ⟨rfl, I3, (fun a ca => Eq.trans (by show (ov_up h 64 w v) a = h a; rw [ov_up_ne (by omega)]) rfl), (by rw [if_pos (show h 64 w = -1 by omega)]; exact (Eq.trans (ov_up_row h 64 w v) (congrArg (fun f => ov_rs f w v) rfl)))⟩

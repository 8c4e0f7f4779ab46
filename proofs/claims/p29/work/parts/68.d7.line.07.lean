abbrev P_fMo_standsAsAlways_90 (F : ov_H × ov_Z) (z : ov_Z) (h : ov_H) (s0 : Int) : Option ov_V → ov_Z → ov_H → Prop := fun r0 z' h' => r0 = none ∧ ov_N F z' h' ∧ (∀ a : Int, a ≠ 96 → h' a = h a) ∧ (∀ j : Int, 0 ≤ j → j < 340 → (h' 96) (340 + j) = pt_A0 0 0 j)
set_option maxHeartbeats 4000000 in
theorem c_fMo_standsAsAlways_90 {u : ov_U} {F : ov_H × ov_Z} {z : ov_Z} {h : ov_H} (d : Nat) (hd : 0 ≤ d) (U : ov_cap u) (I : ov_N F z h) (s0 : Int) (g_s0 : ov_g s0) (p0 : s0 = 340) : ov_T u d ov_m203 [ov_r 90, ov_i s0] z h (P_fMo_standsAsAlways_90 F z h s0) := by
  refine ov_en rfl (Nat.le_of_ble_eq_true rfl) ?_
  show ov_R u d ov_m203 0 [(0, ov_r 90), (1, ov_i s0)] [] z h (P_fMo_standsAsAlways_90 F z h s0)
  refine ov_blk (ls2 := [(0, ov_r 90), (1, ov_i s0), (2, ov_i 0)]) (st2 := []) (pc2 := 2) b_203_0_2 rfl rfl ?_
  have L4 : ∀ (n1 : Nat) (x2 : Int) (z5 : ov_Z) (h6 : ov_H) (I7 : ov_N F z5 h6) (fr8 : ∀ a : Int, a ≠ 96 → h6 a = h a) (xj : ∀ j : Int, 0 ≤ j → j < x2 → (h6 96) (s0 + j) = 0) (q3 : 0 ≤ x2 ∧ x2 ≤ 340), 340 - x2 < (n1 : Int) → ov_R u d ov_m203 2 [(0, ov_r 90), (1, ov_i s0), (2, ov_i x2)] [] z5 h6 (P_fMo_standsAsAlways_90 F z h s0) := by
    intro n1
    induction n1 with
    | zero =>
      intro x2 z5 h6 I7 fr8 xj q3 hn9
      exact absurd hn9 (by omega)
    | succ n1 ih2 =>
      intro x2 z5 h6 I7 fr8 xj q3 hn9
      refine ov_blk (ls2 := [(0, ov_r 90), (1, ov_i s0), (2, ov_i x2)]) (st2 := [ov_i 340, ov_i x2]) (pc2 := 6) b_203_2_2 rfl rfl ?_
      refine ov_icge (tgt := 24) d_203_6 (by decide) (by omega) (by omega) (fun c10 => ?_) (fun c10 => ?_)
      · skip
        refine ov_blk (ls2 := [(0, ov_r 90), (1, ov_i s0), (2, ov_i x2)]) (st2 := [ov_r 90]) (pc2 := 25) b_203_24_1 rfl rfl ?_
        refine ov_getf (v := ov_r 96) d_203_25 fl_Mo_81 (zb_90 I7) (zs_90 I7) (congrArg ov_r (rg_90_10 I7)) ?_
        refine ov_blk (ls2 := [(0, ov_r 90), (1, ov_i s0), (2, ov_i x2)]) (st2 := [ov_i 10, ov_i (s0 + 2), ov_r 96]) (pc2 := 33) b_203_28_4 rfl rfl ?_
        refine ov_iast d_203_33 (zb_96 I7) (zs_96 I7) (by omega) ?_
        have I11 := ua_96 (k := (s0 + 2)) (x := 10) I7 (by refine ⟨?_, ?_, ?_, ?_, ?_, ?_, ?_, ?_, ?_, ?_, ?_, ?_, ?_, ?_, ?_, ?_, ?_, ?_, ?_, ?_, ?_, ?_, ?_, ?_, ?_, ?_, ?_, ?_, ?_⟩ <;> omega)
        refine ov_blk (ls2 := [(0, ov_r 90), (1, ov_i s0), (2, ov_i x2)]) (st2 := [ov_r 90]) (pc2 := 35) b_203_34_1 rfl rfl ?_
        refine ov_getf (v := ov_r 96) d_203_35 fl_Mo_81 (zb_90 I11) (zs_90 I11) (congrArg ov_r (rg_90_10 I11)) ?_
        refine ov_blk (ls2 := [(0, ov_r 90), (1, ov_i s0), (2, ov_i x2)]) (st2 := [ov_i (-1), ov_i (s0 + 3), ov_r 96]) (pc2 := 42) b_203_38_4 rfl rfl ?_
        refine ov_iast d_203_42 (zb_96 I11) (zs_96 I11) (by omega) ?_
        have I12 := ua_96 (k := (s0 + 3)) (x := (-1)) I11 (by refine ⟨?_, ?_, ?_, ?_, ?_, ?_, ?_, ?_, ?_, ?_, ?_, ?_, ?_, ?_, ?_, ?_, ?_, ?_, ?_, ?_, ?_, ?_, ?_, ?_, ?_, ?_, ?_, ?_, ?_⟩ <;> omega)
        refine ov_blk (ls2 := [(0, ov_r 90), (1, ov_i s0), (2, ov_i x2)]) (st2 := [ov_r 90]) (pc2 := 44) b_203_43_1 rfl rfl ?_
        refine ov_getf (v := ov_r 96) d_203_44 fl_Mo_81 (zb_90 I12) (zs_90 I12) (congrArg ov_r (rg_90_10 I12)) ?_
        refine ov_blk (ls2 := [(0, ov_r 90), (1, ov_i s0), (2, ov_i x2)]) (st2 := [ov_i (-1), ov_i (s0 + 4), ov_r 96]) (pc2 := 51) b_203_47_4 rfl rfl ?_
        refine ov_iast d_203_51 (zb_96 I12) (zs_96 I12) (by omega) ?_
        have I13 := ua_96 (k := (s0 + 4)) (x := (-1)) I12 (by refine ⟨?_, ?_, ?_, ?_, ?_, ?_, ?_, ?_, ?_, ?_, ?_, ?_, ?_, ?_, ?_, ?_, ?_, ?_, ?_, ?_, ?_, ?_, ?_, ?_, ?_, ?_, ?_, ?_, ?_⟩ <;> omega)
        refine ov_blk (ls2 := [(0, ov_r 90), (1, ov_i s0), (2, ov_i x2)]) (st2 := [ov_r 90]) (pc2 := 53) b_203_52_1 rfl rfl ?_
        refine ov_getf (v := ov_r 96) d_203_53 fl_Mo_81 (zb_90 I13) (zs_90 I13) (congrArg ov_r (rg_90_10 I13)) ?_
        refine ov_blk (ls2 := [(0, ov_r 90), (1, ov_i s0), (2, ov_i x2)]) (st2 := [ov_i 1, ov_i (s0 + 9), ov_r 96]) (pc2 := 61) b_203_56_4 rfl rfl ?_
        refine ov_iast d_203_61 (zb_96 I13) (zs_96 I13) (by omega) ?_
        have I14 := ua_96 (k := (s0 + 9)) (x := 1) I13 (by refine ⟨?_, ?_, ?_, ?_, ?_, ?_, ?_, ?_, ?_, ?_, ?_, ?_, ?_, ?_, ?_, ?_, ?_, ?_, ?_, ?_, ?_, ?_, ?_, ?_, ?_, ?_, ?_, ?_, ?_⟩ <;> omega)
        exact ov_retv (st := []) d_203_62 rfl ⟨rfl, I14, (fun a ca => Eq.trans (by show (ov_up (ov_up (ov_up (ov_up h6 96 (s0 + 2) 10) 96 (s0 + 3) (-1)) 96 (s0 + 4) (-1)) 96 (s0 + 9) 1) a = h6 a; rw [ov_up_ne (by omega), ov_up_ne (by omega), ov_up_ne (by omega), ov_up_ne (by omega)]) (fr8 a ca)), (by rw [show (ov_up (ov_up (ov_up (ov_up h6 96 (s0 + 2) 10) 96 (s0 + 3) (-1)) 96 (s0 + 4) (-1)) 96 (s0 + 9) 1) 96 = (ov_rs (ov_rs (ov_rs (ov_rs (h6 96) (s0 + 2) 10) (s0 + 3) (-1)) (s0 + 4) (-1)) (s0 + 9) 1) from (Eq.trans (ov_up_row (ov_up (ov_up (ov_up h6 96 (s0 + 2) 10) 96 (s0 + 3) (-1)) 96 (s0 + 4) (-1)) 96 (s0 + 9) 1) (congrArg (fun f => ov_rs f (s0 + 9) 1) (Eq.trans (ov_up_row (ov_up (ov_up h6 96 (s0 + 2) 10) 96 (s0 + 3) (-1)) 96 (s0 + 4) (-1)) (congrArg (fun f => ov_rs f (s0 + 4) (-1)) (Eq.trans (ov_up_row (ov_up h6 96 (s0 + 2) 10) 96 (s0 + 3) (-1)) (congrArg (fun f => ov_rs f (s0 + 3) (-1)) (Eq.trans (ov_up_row h6 96 (s0 + 2) 10) (congrArg (fun f => ov_rs f (s0 + 2) 10) rfl))))))))]; exact pt_sa p0 (fun j h0 h1 => xj j h0 (by omega)))⟩
      · skip
        refine ov_blk (ls2 := [(0, ov_r 90), (1, ov_i s0), (2, ov_i x2)]) (st2 := [ov_r 90]) (pc2 := 10) b_203_9_1 rfl rfl ?_
        refine ov_getf (v := ov_r 96) d_203_10 fl_Mo_81 (zb_90 I7) (zs_90 I7) (congrArg ov_r (rg_90_10 I7)) ?_
        refine ov_blk (ls2 := [(0, ov_r 90), (1, ov_i s0), (2, ov_i x2)]) (st2 := [ov_i 0, ov_i (s0 + x2), ov_r 96]) (pc2 := 17) b_203_13_4 rfl rfl ?_
        refine ov_iast d_203_17 (zb_96 I7) (zs_96 I7) (by omega) ?_
        have I15 := ua_96 (k := (s0 + x2)) (x := 0) I7 (by refine ⟨?_, ?_, ?_, ?_, ?_, ?_, ?_, ?_, ?_, ?_, ?_, ?_, ?_, ?_, ?_, ?_, ?_, ?_, ?_, ?_, ?_, ?_, ?_, ?_, ?_, ?_, ?_, ?_, ?_⟩ <;> omega)
        refine ov_blk (ls2 := [(0, ov_r 90), (1, ov_i s0), (2, ov_i (x2 + 1))]) (st2 := []) (pc2 := 21) b_203_18_1 rfl rfl ?_
        refine ov_goto (tgt := 2) d_203_21 (by decide) ?_
        exact ih2 (x2 + 1) _ _ I15 (fun a ca => Eq.trans (by show (ov_up h6 96 (s0 + x2) 0) a = h6 a; rw [ov_up_ne (by omega)]) (fr8 a ca)) (fun j h0 h1 => if e : j = x2 then (by rw [e]; show ov_up _ 96 _ _ 96 _ = _; rw [ov_up_row, ov_rs_eq]) else (by show ov_up _ 96 _ _ 96 (s0 + j) = _; rw [ov_up_row, ov_rs_ne (by omega)]; exact xj j h0 (by omega))) (by show 0 ≤ (x2 + 1) ∧ (x2 + 1) ≤ 340; omega) (by omega)
  exact L4 341 0 _ _ I (fun a ca => rfl) (fun j a b => by omega) (by show 0 ≤ 0 ∧ 0 ≤ 340; omega) (by omega)

abbrev P_fMo_emit_90 (F : ov_H × ov_Z) (z : ov_Z) (h : ov_H) (p : Int) (c : Int) (w : Int) : Option ov_V → ov_Z → ov_H → Prop := fun r0 z' h' => r0 = none ∧ ov_N F z' h' ∧ (∀ a : Int, a ≠ 90 ∧ (a < 97 ∨ 98 < a) → h' a = h a) ∧ ((h' 90 13) = (h 90 13) + 1 ∧ (h' 90 7) = (h 90 7) ∧ (h' 90 8) = (h 90 8) ∧ (h' 93 ((h' 90 7))) = p) ∧ (∀ k : Int, k ≠ 13 → (h' 90) k = (h 90) k)
set_option maxHeartbeats 4000000 in
theorem c_fMo_emit_90 {u : ov_U} {F : ov_H × ov_Z} (p : Int) {z : ov_Z} {h : ov_H} (d : Nat) (hd : 0 ≤ d) (U : ov_cap u) (I : ov_N F z h) (c : Int) (w : Int) (g_c : ov_g c) (g_w : ov_g w) (p0 : 0 ≤ c ∧ c ≤ 10) (p1 : (h 90 13) ≤ 999) (p2 : (h 93 ((h 90 7))) = p) : ov_T u d ov_m231 [ov_r 90, ov_i c, ov_i w] z h (P_fMo_emit_90 F z h p c w) := by
  refine ov_en rfl (Nat.le_of_ble_eq_true rfl) ?_
  show ov_R u d ov_m231 0 [(0, ov_r 90), (1, ov_i c), (2, ov_i w)] [] z h (P_fMo_emit_90 F z h p c w)
  refine ov_blk (ls2 := [(0, ov_r 90), (1, ov_i c), (2, ov_i w)]) (st2 := [ov_r 90]) (pc2 := 1) b_231_0_1 rfl rfl ?_
  refine ov_getf (v := ov_r 97) d_231_1 fl_Mo_84 (zb_90 I) (zs_90 I) (congrArg ov_r (rg_90_11 I)) ?_
  refine ov_blk (ls2 := [(0, ov_r 90), (1, ov_i c), (2, ov_i w)]) (st2 := [ov_r 90, ov_i 1100, ov_r 97]) (pc2 := 8) b_231_4_2 rfl rfl ?_
  refine ov_getf (v := ov_i (h 90 13)) d_231_8 fl_Mo_208 (zb_90 I) (zs_90 I) rfl ?_
  have g1 := rg_90_13 I
  refine ov_blk (ls2 := [(0, ov_r 90), (1, ov_i c), (2, ov_i w)]) (st2 := [ov_i c, ov_i (1100 + (h 90 13)), ov_r 97]) (pc2 := 13) b_231_11_2 rfl rfl ?_
  refine ov_iast d_231_13 (zb_97 I) (zs_97 I) (by omega) ?_
  have I2 := ua_97 (k := (1100 + (h 90 13))) (x := c) I (by omega)
  refine ov_blk (ls2 := [(0, ov_r 90), (1, ov_i c), (2, ov_i w)]) (st2 := [ov_r 90]) (pc2 := 15) b_231_14_1 rfl rfl ?_
  refine ov_getf (v := ov_r 98) d_231_15 fl_Mo_87 (zb_90 I2) (zs_90 I2) (congrArg ov_r (rg_90_12 I2)) ?_
  refine ov_blk (ls2 := [(0, ov_r 90), (1, ov_i c), (2, ov_i w)]) (st2 := [ov_r 90, ov_i 1100, ov_r 98]) (pc2 := 22) b_231_18_2 rfl rfl ?_
  refine ov_getf (v := ov_i (h 90 13)) d_231_22 fl_Mo_208 (zb_90 I2) (zs_90 I2) rfl ?_
  refine ov_blk (ls2 := [(0, ov_r 90), (1, ov_i c), (2, ov_i w)]) (st2 := [ov_i w, ov_i (1100 + (h 90 13)), ov_r 98]) (pc2 := 27) b_231_25_2 rfl rfl ?_
  refine ov_iast d_231_27 (zb_98 I2) (zs_98 I2) (by omega) ?_
  have I4 := ua_98 (k := (1100 + (h 90 13))) (x := w) I2 (by omega)
  refine ov_blk (ls2 := [(0, ov_r 90), (1, ov_i c), (2, ov_i w)]) (st2 := [ov_r 90, ov_r 90]) (pc2 := 30) b_231_28_2 rfl rfl ?_
  refine ov_getf (v := ov_i (h 90 13)) d_231_30 fl_Mo_208 (zb_90 I4) (zs_90 I4) rfl ?_
  refine ov_blk (ls2 := [(0, ov_r 90), (1, ov_i c), (2, ov_i w)]) (st2 := [ov_i ((h 90 13) + 1), ov_r 90]) (pc2 := 35) b_231_33_2 rfl rfl ?_
  refine ov_putf (x := ((h 90 13) + 1)) d_231_35 fl_Mo_208 (zb_90 I4) (zs_90 I4) rfl nk_0 rfl ?_
  have I6 := up_90_13 (x := ((h 90 13) + 1)) I4 (by omega)
  show ov_R u d ov_m231 38 [(0, ov_r 90), (1, ov_i c), (2, ov_i w)] [] z (ov_up (ov_up (ov_up h 97 (1100 + (h 90 13)) c) 98 (1100 + (h 90 13)) w) 90 13 ((h 90 13) + 1)) (P_fMo_emit_90 F z h p c w)
  exact ov_retv (st := []) d_231_38 rfl ⟨rfl, I6, (fun a ca => Eq.trans (by show (ov_up (ov_up (ov_up h 97 (1100 + (h 90 13)) c) 98 (1100 + (h 90 13)) w) 90 13 ((h 90 13) + 1)) a = h a; rw [ov_up_ne (by omega), ov_up_ne (by omega), ov_up_ne (by omega)]) rfl), (by show ((h 90 13) + 1) = (h 90 13) + 1 ∧ (h 90 7) = (h 90 7) ∧ (h 90 8) = (h 90 8) ∧ (h 93 ((h 90 7))) = p; omega), (fun k n0 => (Eq.trans (by show (ov_up (ov_up (ov_up h 97 (1100 + (h 90 13)) c) 98 (1100 + (h 90 13)) w) 90 13 ((h 90 13) + 1)) 90 k = h 90 k; rw [ov_up_j n0, ov_up_ne (by decide), ov_up_ne (by decide)]) rfl))⟩

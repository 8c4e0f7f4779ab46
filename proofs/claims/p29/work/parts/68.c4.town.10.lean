abbrev P_fArrays_fill_AIIV_76 (F : ov_H) (z : ov_Z) (h : ov_H) (v : Int) : Option ov_V → ov_Z → ov_H → Prop := fun r0 z' h' => r0 = none ∧ ov_I F z' h' ∧ (∀ a : Int, a ≠ 76 → h' a = h a) ∧ (∀ k : Int, 0 ≤ k → k < 4 → (h' 76) k = v)
set_option maxHeartbeats 4000000 in
theorem c_fArrays_fill_AIIV_76 {u : ov_U} {F : ov_H} {z : ov_Z} {h : ov_H} (d : Nat) (hd : 0 ≤ d) (U : ov_cap u) (I : ov_I F z h) (hw : ov_kw 75557863725914323419136 F) (v : Int) (g_v : ov_g v) (p0 : -1 ≤ v ∧ v ≤ 3) : ov_T u d ov_m14 [ov_r 76, ov_i v] z h (P_fArrays_fill_AIIV_76 F z h v) := by
  refine ov_en rfl (Nat.le_of_ble_eq_true rfl) ?_
  show ov_R u d ov_m14 0 [(0, ov_r 76), (1, ov_i v)] [] z h (P_fArrays_fill_AIIV_76 F z h v)
  refine ov_blk (ls2 := [(0, ov_r 76), (1, ov_i v), (2, ov_i 0)]) (st2 := [ov_r 76]) (pc2 := 3) b_14_0_3 rfl rfl ?_
  refine ov_alen d_14_3 (zb_76 I) (zs_76 I) (by decide) ?_
  show ov_R u d ov_m14 4 [(0, ov_r 76), (1, ov_i v), (2, ov_i 0)] [ov_i 4] z h (P_fArrays_fill_AIIV_76 F z h v)
  refine ov_blk (ls2 := [(0, ov_r 76), (1, ov_i v), (2, ov_i 0), (3, ov_i 4)]) (st2 := []) (pc2 := 5) b_14_4_1 rfl rfl ?_
  have L4 : ∀ (n1 : Nat) (x2 : Int) (z5 : ov_Z) (h6 : ov_H) (I7 : ov_I F z5 h6) (fr8 : ∀ a : Int, a ≠ 76 → h6 a = h a) (xj : ∀ j : Int, 0 ≤ j → j < x2 → (h6 76) j = v) (q3 : 0 ≤ x2 ∧ x2 ≤ 4), 4 - x2 < (n1 : Int) → ov_R u d ov_m14 5 [(0, ov_r 76), (1, ov_i v), (2, ov_i x2), (3, ov_i 4)] [] z5 h6 (P_fArrays_fill_AIIV_76 F z h v) := by
    intro n1
    induction n1 with
    | zero =>
      intro x2 z5 h6 I7 fr8 xj q3 hn9
      exact absurd hn9 (by omega)
    | succ n1 ih2 =>
      intro x2 z5 h6 I7 fr8 xj q3 hn9
      refine ov_blk (ls2 := [(0, ov_r 76), (1, ov_i v), (2, ov_i x2), (3, ov_i 4)]) (st2 := [ov_i 4, ov_i x2]) (pc2 := 7) b_14_5_2 rfl rfl ?_
      refine ov_icge (tgt := 20) d_14_7 (by decide) (by omega) (by omega) (fun c10 => ?_) (fun c10 => ?_)
      · skip
        exact ov_retv (st := []) d_14_20 rfl ⟨rfl, I7, (fun a ca => (fr8 a ca)), (fun k a b => xj k a (by omega))⟩
      · skip
        refine ov_blk (ls2 := [(0, ov_r 76), (1, ov_i v), (2, ov_i x2), (3, ov_i 4)]) (st2 := [ov_i v, ov_i x2, ov_r 76]) (pc2 := 13) b_14_10_3 rfl rfl ?_
        refine ov_iast d_14_13 (zb_76 I7) (zs_76 I7) (by omega) ?_
        have I11 := ua_76 (k := x2) (x := v) I7 (by omega) (hw 76 (by decide +kernel))
        refine ov_blk (ls2 := [(0, ov_r 76), (1, ov_i v), (2, ov_i (x2 + 1)), (3, ov_i 4)]) (st2 := []) (pc2 := 17) b_14_14_1 rfl rfl ?_
        refine ov_goto (tgt := 5) d_14_17 (by decide) ?_
        exact ih2 (x2 + 1) _ _ I11 (fun a ca => Eq.trans (by show (ov_up h6 76 x2 v) a = h6 a; rw [ov_up_ne (by omega)]) (fr8 a ca)) (fun j a b => if e : j = x2 then (by rw [e]; show ov_up _ 76 _ _ 76 _ = _; rw [ov_up_row, ov_rs_eq]) else (by show ov_up _ 76 _ _ 76 j = _; rw [ov_up_row, ov_rs_ne e]; exact xj j a (by omega))) (by show 0 ≤ (x2 + 1) ∧ (x2 + 1) ≤ 4; omega) (by omega)
  exact L4 5 0 _ _ I (fun a ca => rfl) (fun j a b => by omega) (by show 0 ≤ 0 ∧ 0 ≤ 4; omega) (by omega)

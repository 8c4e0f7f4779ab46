abbrev P_fMo_common (F : ov_H × ov_Z) (z : ov_Z) (h : ov_H) (a : Int) (b : Int) : Option ov_V → ov_Z → ov_H → Prop := fun r0 z' h' => ∃ r : Int, r0 = some (ov_i r) ∧ z = z' ∧ h = h' ∧ r = ((Nat.gcd a.toNat b.toNat : Nat) : Int)
set_option maxHeartbeats 4000000 in
theorem c_fMo_common {u : ov_U} {F : ov_H × ov_Z} {z : ov_Z} {h : ov_H} (d : Nat) (hd : 0 ≤ d) (U : ov_cap u) (I : ov_N F z h) (a : Int) (b : Int) (g_a : ov_g a) (g_b : ov_g b) (p0 : 1 ≤ a ∧ a ≤ 1200 ∧ 1 ≤ b ∧ b ≤ 60) : ov_T u d ov_m222 [ov_i a, ov_i b] z h (P_fMo_common F z h a b) := by
  refine ov_en rfl (Nat.le_of_ble_eq_true rfl) ?_
  show ov_R u d ov_m222 0 [(0, ov_i a), (1, ov_i b)] [] z h (P_fMo_common F z h a b)
  refine ov_blk (ls2 := [(0, ov_i a), (1, ov_i b), (2, ov_i a), (3, ov_i b)]) (st2 := []) (pc2 := 4) b_222_0_4 rfl rfl ?_
  have L4 : ∀ (n1 : Nat) (x2 : Int) (x3 : Int) (xg : Nat.gcd x2.toNat x3.toNat = Nat.gcd a.toNat b.toNat) (q3 : 0 ≤ x2 ∧ x2 ≤ 1200 ∧ 0 ≤ x3 ∧ x3 ≤ 60), x3 < (n1 : Int) → ov_R u d ov_m222 4 [(0, ov_i a), (1, ov_i b), (2, ov_i x2), (3, ov_i x3)] [] z h (P_fMo_common F z h a b) := by
    intro n1
    induction n1 with
    | zero =>
      intro x2 x3 xg q3 hn5
      exact absurd hn5 (by omega)
    | succ n1 ih2 =>
      intro x2 x3 xg q3 hn5
      refine ov_blk (ls2 := [(0, ov_i a), (1, ov_i b), (2, ov_i x2), (3, ov_i x3)]) (st2 := [ov_i x3]) (pc2 := 5) b_222_4_1 rfl rfl ?_
      refine ov_ifeq (tgt := 21) d_222_5 (by decide) (by omega) (fun c6 => ?_) (fun c6 => ?_)
      · skip
        refine ov_blk (ls2 := [(0, ov_i a), (1, ov_i b), (2, ov_i x2), (3, ov_i x3)]) (st2 := [ov_i x2]) (pc2 := 22) b_222_21_1 rfl rfl ?_
        exact ov_reti (st := []) d_222_22 rfl ⟨_, rfl, rfl, rfl, (by show x2 = ((Nat.gcd a.toNat b.toNat : Nat) : Int); exact pt_gcd_e (by omega) (by omega) xg)⟩
      · skip
        refine ov_blk (ls2 := [(0, ov_i a), (1, ov_i b), (2, ov_i x2), (3, ov_i x3)]) (st2 := [ov_i x3, ov_i x2]) (pc2 := 10) b_222_8_2 rfl rfl ?_
        have gm := ov_tmb (a := x2) (b := x3) (by omega) (by omega)
        refine ov_irem d_222_10 (by omega) (by omega) (by omega) ?_
        have g7 := ov_tm (a := x2) (b := x3) (by omega)
        have g8 := ov_tmg (a := x2) (b := x3) (by omega) (by omega)
        refine ov_blk (ls2 := [(0, ov_i a), (1, ov_i b), (2, ov_i x3), (3, ov_i (Int.tmod x2 x3)), (4, ov_i (Int.tmod x2 x3))]) (st2 := []) (pc2 := 18) b_222_11_5 rfl rfl ?_
        refine ov_goto (tgt := 4) d_222_18 (by decide) ?_
        refine ov_sub (ls2 := [(0, ov_i a), (1, ov_i b), (2, ov_i x3), (3, ov_i (Int.tmod x2 x3))]) (List.Sublist.subset (by repeat (first | exact List.Sublist.refl _ | apply List.Sublist.cons_cons | apply List.Sublist.cons))) ?_
        exact ih2 x3 (Int.tmod x2 x3) (Eq.trans (pt_gcd_s (by omega) (by omega)) xg) (by show 0 ≤ x3 ∧ x3 ≤ 1200 ∧ 0 ≤ (Int.tmod x2 x3) ∧ (Int.tmod x2 x3) ≤ 60; omega) (by omega)
  exact L4 61 a b rfl (by show 0 ≤ a ∧ a ≤ 1200 ∧ 0 ≤ b ∧ b ≤ 60; omega) (by omega)

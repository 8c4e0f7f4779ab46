theorem b_202_360_2 : ov_ds ov_m202.2.1 360 [.aload_n 0, .iconst 0] = true := by decide +kernel
theorem d_202_362 : decode ov_m202.2.1 362 = .ok (.invokevirtual 147, 3) := by decide +kernel
theorem b_202_365_1 : ov_ds ov_m202.2.1 365 [.aload_n 0] = true := by decide +kernel
theorem d_202_366 : decode ov_m202.2.1 366 = .ok (.getfield 81, 3) := by decide +kernel
theorem b_202_369_2 : ov_ds ov_m202.2.1 369 [.iconst 0, .iconst 1] = true := by decide +kernel
theorem d_202_371 : decode ov_m202.2.1 371 = .ok (.iastore, 1) := by decide +kernel
theorem b_202_372_1 : ov_ds ov_m202.2.1 372 [.aload_n 0] = true := by decide +kernel
theorem d_202_373 : decode ov_m202.2.1 373 = .ok (.getfield 81, 3) := by decide +kernel
theorem b_202_376_2 : ov_ds ov_m202.2.1 376 [.iconst 1, .iconst 1] = true := by decide +kernel
theorem d_202_378 : decode ov_m202.2.1 378 = .ok (.iastore, 1) := by decide +kernel
theorem b_202_379_1 : ov_ds ov_m202.2.1 379 [.aload_n 0] = true := by decide +kernel
theorem d_202_380 : decode ov_m202.2.1 380 = .ok (.invokevirtual 151, 3) := by decide +kernel
theorem d_202_383 : decode ov_m202.2.1 383 = .ok (.return_, 1) := by decide +kernel
/-! the reference is made -/
abbrev ov_R96 : Int → Int := (ov_rs (ov_rs (ov_rs (ov_rs (ov_rs (ov_rs (fun _ => 0) 2 10) 3 (-1)) 4 (-1)) 9 1) 0 1) 1 1)
theorem ov_rs_rl {f : Int → Int} {k v j : Int} (hf : -9223372036854775808 ≤ f j ∧ f j ≤ 9223372036854775807) (hv : -9223372036854775808 ≤ v ∧ v ≤ 9223372036854775807) : -9223372036854775808 ≤ ov_rs f k v j ∧ ov_rs f k v j ≤ 9223372036854775807 := by
  unfold ov_rs
  split
  · exact hv
  · exact hf
theorem om_90 {B : Int} (hB : 0 ≤ B) (k : Int) : ov_mr B 90 k (ov_T0 90 k) := ⟨fun e => by subst e; decide +kernel, fun e => by subst e; decide +kernel, fun e => by subst e; decide +kernel, fun e => by subst e; decide +kernel, fun e => by subst e; decide +kernel, fun e => by subst e; decide +kernel, fun e => by subst e; decide +kernel, fun e => by subst e; decide +kernel, fun e => by subst e; decide +kernel, fun e => by subst e; decide +kernel, fun e => by subst e; decide +kernel, fun e => by subst e; decide +kernel, fun e => by subst e; decide +kernel, fun e => by subst e; decide +kernel, fun e => by subst e; decide +kernel, fun e => by subst e; decide +kernel, fun e => by subst e; decide +kernel, fun e => by subst e; decide +kernel, fun e => by subst e; decide +kernel, fun e => by subst e; decide +kernel, fun e => by subst e; decide +kernel, fun e => by subst e; decide +kernel, fun e => by subst e; decide +kernel, fun e => by subst e; decide +kernel, fun e => by subst e; decide +kernel, fun e => by subst e; decide +kernel, fun e => by subst e; decide +kernel, fun e => by subst e; decide +kernel, fun e => by subst e; decide +kernel, fun e => by subst e; decide +kernel, fun e => by subst e; decide +kernel, fun e => by subst e; decide +kernel, fun e => by subst e; decide +kernel, fun e => by subst e; decide +kernel, fun e => by subst e; decide +kernel, fun e => by subst e; decide +kernel, fun e => by subst e; decide +kernel, fun e => by subst e; decide +kernel, fun e => by subst e; decide +kernel, fun e => by subst e; decide +kernel, fun e => by subst e; decide +kernel, fun e => by subst e; decide +kernel, fun e => by subst e; decide +kernel, fun e => by subst e; decide +kernel, fun e => by subst e; decide +kernel, fun e => by subst e; decide +kernel⟩
theorem om_91 {B : Int} (hB : 0 ≤ B) (k : Int) : ov_mr B 91 k (ov_T0 91 k) := by
  show ov_mr91 B k 0
  unfold ov_mr91
  omega
theorem om_92 {B : Int} (hB : 0 ≤ B) (k : Int) : ov_mr B 92 k (ov_T0 92 k) := by
  show ov_mr92 B k 0
  unfold ov_mr92
  omega
theorem om_93 {B : Int} (hB : 0 ≤ B) (k : Int) : ov_mr B 93 k (ov_T0 93 k) := by
  show ov_mr93 B k 0
  unfold ov_mr93
  omega
theorem om_94 {B : Int} (hB : 0 ≤ B) (k : Int) : ov_mr B 94 k (ov_T0 94 k) := by
  show ov_mr94 B k 0
  unfold ov_mr94
  omega
theorem om_95 {B : Int} (hB : 0 ≤ B) (k : Int) : ov_mr B 95 k (ov_T0 95 k) := by
  show -9223372036854775808 ≤ (ov_rs (ov_rs (ov_rs (ov_rs (ov_rs (ov_rs (ov_rs (ov_rs (ov_rs (ov_rs (ov_rs (ov_rs (ov_rs (ov_rs (ov_rs (ov_rs (ov_rs (ov_rs (ov_rs (ov_rs (ov_rs (ov_rs (fun _ => 0) 0 1034460) 1 22955708) 2 2793) 3 940952) 4 1166843) 5 25433) 6 979413) 7 941040) 8 6040476) 9 34523964) 10 790116) 11 569) 12 8787) 13 6250976) 14 571827392) 15 179086304) 16 1138236000) 17 19741) 18 1891) 19 573) 20 614923) 21 793) k ∧ (ov_rs (ov_rs (ov_rs (ov_rs (ov_rs (ov_rs (ov_rs (ov_rs (ov_rs (ov_rs (ov_rs (ov_rs (ov_rs (ov_rs (ov_rs (ov_rs (ov_rs (ov_rs (ov_rs (ov_rs (ov_rs (ov_rs (fun _ => 0) 0 1034460) 1 22955708) 2 2793) 3 940952) 4 1166843) 5 25433) 6 979413) 7 941040) 8 6040476) 9 34523964) 10 790116) 11 569) 12 8787) 13 6250976) 14 571827392) 15 179086304) 16 1138236000) 17 19741) 18 1891) 19 573) 20 614923) 21 793) k ≤ 9223372036854775807
  repeat (first | exact (by decide) | refine ov_rs_rl ?_ (by decide))
theorem om_97 {B : Int} (hB : 0 ≤ B) (k : Int) : ov_mr B 97 k (ov_T0 97 k) := by
  show ov_mr97 B k 0
  unfold ov_mr97
  omega
theorem om_98 {B : Int} (hB : 0 ≤ B) (k : Int) : ov_mr B 98 k (ov_T0 98 k) := by
  show ov_mr98 B k 0
  unfold ov_mr98
  omega
theorem om_99 {B : Int} (hB : 0 ≤ B) (k : Int) : ov_mr B 99 k (ov_T0 99 k) := trivial
theorem om_100 {B : Int} (hB : 0 ≤ B) (k : Int) : ov_mr B 100 k (ov_T0 100 k) := by
  show ov_mr100 B k 0
  unfold ov_mr100
  omega
theorem om_101 {B : Int} (hB : 0 ≤ B) (k : Int) : ov_mr B 101 k (ov_T0 101 k) := by
  show ov_mr101 B k 0
  unfold ov_mr101
  omega
theorem om_102 {B : Int} (hB : 0 ≤ B) (k : Int) : ov_mr B 102 k (ov_T0 102 k) := by
  show ov_mr102 B k 0
  unfold ov_mr102
  omega
theorem om_103 {B : Int} (hB : 0 ≤ B) (k : Int) : ov_mr B 103 k (ov_T0 103 k) := by
  show ov_mr103 B k 0
  unfold ov_mr103
  omega
theorem om_104 {B : Int} (hB : 0 ≤ B) (k : Int) : ov_mr B 104 k (ov_T0 104 k) := by
  show ov_mr104 B k 0
  unfold ov_mr104
  omega
theorem om_105 {B : Int} (hB : 0 ≤ B) (k : Int) : ov_mr B 105 k (ov_T0 105 k) := by
  show ov_mr105 B k 0
  unfold ov_mr105
  omega
theorem om_106 {B : Int} (hB : 0 ≤ B) (k : Int) : ov_mr B 106 k (ov_T0 106 k) := by
  show ov_mr106 B k 0
  unfold ov_mr106
  omega
theorem om_107 {B : Int} (hB : 0 ≤ B) (k : Int) : ov_mr B 107 k (ov_T0 107 k) := by
  show ov_mr107 B k 0
  unfold ov_mr107
  omega
theorem om_108 {B : Int} (hB : 0 ≤ B) (k : Int) : ov_mr B 108 k (ov_T0 108 k) := by
  show ov_mr108 B k 0
  unfold ov_mr108
  omega
theorem om_109 {B : Int} (hB : 0 ≤ B) (k : Int) : ov_mr B 109 k (ov_T0 109 k) := by
  show ov_mr109 B k 0
  unfold ov_mr109
  omega
theorem om_110 {B : Int} (hB : 0 ≤ B) (k : Int) : ov_mr B 110 k (ov_T0 110 k) := trivial
theorem om_111 {B : Int} (hB : 0 ≤ B) (k : Int) : ov_mr B 111 k (ov_T0 111 k) := trivial
theorem om_112 {B : Int} (hB : 0 ≤ B) (k : Int) : ov_mr B 112 k (ov_T0 112 k) := by
  show ov_mr112 B k 0
  unfold ov_mr112
  omega
theorem om_113 {B : Int} (hB : 0 ≤ B) (k : Int) : ov_mr B 113 k (ov_T0 113 k) := by
  show ov_mr113 B k 0
  unfold ov_mr113
  omega
theorem om_114 {B : Int} (hB : 0 ≤ B) (k : Int) : ov_mr B 114 k (ov_T0 114 k) := by
  show ov_mr114 B k 0
  unfold ov_mr114
  omega
theorem om_96 {B : Int} (k : Int) : ov_mr B 96 k (ov_R96 k) := by
  show ov_mr96 B k (ov_R96 k)
  by_cases e0 : k = 0
  · subst e0; rw [show ov_R96 0 = 1 by decide +kernel]; unfold ov_mr96; refine ⟨?_, ?_, ?_, ?_, ?_, ?_, ?_, ?_, ?_, ?_, ?_, ?_, ?_, ?_, ?_, ?_, ?_, ?_, ?_, ?_, ?_, ?_, ?_, ?_, ?_, ?_, ?_, ?_, ?_⟩ <;> omega
  by_cases e1 : k = 1
  · subst e1; rw [show ov_R96 1 = 1 by decide +kernel]; unfold ov_mr96; refine ⟨?_, ?_, ?_, ?_, ?_, ?_, ?_, ?_, ?_, ?_, ?_, ?_, ?_, ?_, ?_, ?_, ?_, ?_, ?_, ?_, ?_, ?_, ?_, ?_, ?_, ?_, ?_, ?_, ?_⟩ <;> omega
  by_cases e2 : k = 2
  · subst e2; rw [show ov_R96 2 = 10 by decide +kernel]; unfold ov_mr96; refine ⟨?_, ?_, ?_, ?_, ?_, ?_, ?_, ?_, ?_, ?_, ?_, ?_, ?_, ?_, ?_, ?_, ?_, ?_, ?_, ?_, ?_, ?_, ?_, ?_, ?_, ?_, ?_, ?_, ?_⟩ <;> omega
  by_cases e3 : k = 3
  · subst e3; rw [show ov_R96 3 = -1 by decide +kernel]; unfold ov_mr96; refine ⟨?_, ?_, ?_, ?_, ?_, ?_, ?_, ?_, ?_, ?_, ?_, ?_, ?_, ?_, ?_, ?_, ?_, ?_, ?_, ?_, ?_, ?_, ?_, ?_, ?_, ?_, ?_, ?_, ?_⟩ <;> omega
  by_cases e4 : k = 4
  · subst e4; rw [show ov_R96 4 = -1 by decide +kernel]; unfold ov_mr96; refine ⟨?_, ?_, ?_, ?_, ?_, ?_, ?_, ?_, ?_, ?_, ?_, ?_, ?_, ?_, ?_, ?_, ?_, ?_, ?_, ?_, ?_, ?_, ?_, ?_, ?_, ?_, ?_, ?_, ?_⟩ <;> omega
  by_cases e9 : k = 9
  · subst e9; rw [show ov_R96 9 = 1 by decide +kernel]; unfold ov_mr96; refine ⟨?_, ?_, ?_, ?_, ?_, ?_, ?_, ?_, ?_, ?_, ?_, ?_, ?_, ?_, ?_, ?_, ?_, ?_, ?_, ?_, ?_, ?_, ?_, ?_, ?_, ?_, ?_, ?_, ?_⟩ <;> omega
  rw [show ov_R96 k = 0 by show (ov_rs (ov_rs (ov_rs (ov_rs (ov_rs (ov_rs (fun _ => 0) 2 10) 3 (-1)) 4 (-1)) 9 1) 0 1) 1 1) k = 0; rw [ov_rs_ne e1, ov_rs_ne e0, ov_rs_ne e9, ov_rs_ne e4, ov_rs_ne e3, ov_rs_ne e2]]
  unfold ov_mr96
  refine ⟨?_, ?_, ?_, ?_, ?_, ?_, ?_, ?_, ?_, ?_, ?_, ?_, ?_, ?_, ?_, ?_, ?_, ?_, ?_, ?_, ?_, ?_, ?_, ?_, ?_, ?_, ?_, ?_, ?_⟩ <;> omega
theorem ov_T0_mr {B : Int} (hB : 0 ≤ B) : ∀ (a : Nat) (k : Int), a < 25 → a ≠ 6 → ov_mr B (90 + a) k (ov_T0 ((90 + a : Nat) : Int) k)
  | 0, k, _, _ => om_90 hB k
  | 1, k, _, _ => om_91 hB k
  | 2, k, _, _ => om_92 hB k
  | 3, k, _, _ => om_93 hB k
  | 4, k, _, _ => om_94 hB k
  | 5, k, _, _ => om_95 hB k
  | 6, k, _, h => absurd rfl h
  | 7, k, _, _ => om_97 hB k
  | 8, k, _, _ => om_98 hB k
  | 9, k, _, _ => om_99 hB k
  | 10, k, _, _ => om_100 hB k
  | 11, k, _, _ => om_101 hB k
  | 12, k, _, _ => om_102 hB k
  | 13, k, _, _ => om_103 hB k
  | 14, k, _, _ => om_104 hB k
  | 15, k, _, _ => om_105 hB k
  | 16, k, _, _ => om_106 hB k
  | 17, k, _, _ => om_107 hB k
  | 18, k, _, _ => om_108 hB k
  | 19, k, _, _ => om_109 hB k
  | 20, k, _, _ => om_110 hB k
  | 21, k, _, _ => om_111 hB k
  | 22, k, _, _ => om_112 hB k
  | 23, k, _, _ => om_113 hB k
  | 24, k, _, _ => om_114 hB k
  | n + 25, _, h, _ => absurd h (by omega)
set_option maxHeartbeats 4000000 in
theorem i_stand {u : ov_U} {z : ov_Z} {h : ov_H} (d : Nat) (U : ov_cap u) (C : ov_SH 115 z) (hr : h 90 10 = 96) (hz : h 96 = fun _ => 0) : ov_T u d ov_m203 [ov_r 90, ov_i 0] z h (fun r0 z' h' => r0 = none ∧ z = z' ∧ (∀ b : Int, b ≠ 96 → h' b = h b) ∧ h' 96 = (ov_rs (ov_rs (ov_rs (ov_rs (fun _ => 0) 2 10) 3 (-1)) 4 (-1)) 9 1)) := by
  refine ov_en rfl (Nat.le_of_ble_eq_true rfl) ?_
  show ov_R u d ov_m203 0 [(0, ov_r 90), (1, ov_i 0)] [] z h _
  refine ov_blk (ls2 := [(0, ov_r 90), (1, ov_i 0), (2, ov_i 0)]) (st2 := []) (pc2 := 2) b_203_0_2 rfl rfl ?_
  have L1 : ∀ (n : Nat) (x2 : Int) (h1 : ov_H) (E1 : ∀ b : Int, b ≠ 96 → h1 b = h b) (A1 : h1 96 = fun _ => 0) (q : 0 ≤ x2 ∧ x2 ≤ 340), 340 - x2 < (n : Int) → ov_R u d ov_m203 2 [(0, ov_r 90), (1, ov_i 0), (2, ov_i x2)] [] z h1 (fun r0 z' h' => r0 = none ∧ z = z' ∧ (∀ b : Int, b ≠ 96 → h' b = h b) ∧ h' 96 = (ov_rs (ov_rs (ov_rs (ov_rs (fun _ => 0) 2 10) 3 (-1)) 4 (-1)) 9 1)) := by
    intro n
    induction n with
    | zero =>
      intro x2 h1 E1 A1 q hn
      exact absurd hn (by omega)
    | succ n ih =>
      intro x2 h1 E1 A1 q hn
      have t9 : h1 90 10 = 96 := by rw [E1 90 (by decide)]; exact hr
      refine ov_blk (ls2 := [(0, ov_r 90), (1, ov_i 0), (2, ov_i x2)]) (st2 := [ov_i 340, ov_i x2]) (pc2 := 6) b_203_2_2 rfl rfl ?_
      refine ov_icge (tgt := 24) d_203_6 (by decide) (by omega) (by omega) (fun c1 => ?_) (fun c1 => ?_)
      · skip
        refine ov_blk (ls2 := [(0, ov_r 90), (1, ov_i 0), (2, ov_i x2)]) (st2 := [ov_r 90]) (pc2 := 25) b_203_24_1 rfl rfl ?_
        refine ov_getf (v := ov_r 96) d_203_25 fl_Mo_81 ⟨by decide, by rw [C.1]; decide⟩ (C.2.2 90 (by decide) (by decide)) (congrArg ov_r (show h1 90 10 = 96 from t9)) ?_
        refine ov_blk (ls2 := [(0, ov_r 90), (1, ov_i 0), (2, ov_i x2)]) (st2 := [ov_i 10, ov_i (0 + 2), ov_r 96]) (pc2 := 33) b_203_28_4 rfl rfl ?_
        refine ov_iast d_203_33 ⟨by decide, by rw [C.1]; decide⟩ (C.2.2 96 (by decide) (by decide)) (by decide) ?_
        refine ov_blk (ls2 := [(0, ov_r 90), (1, ov_i 0), (2, ov_i x2)]) (st2 := [ov_r 90]) (pc2 := 35) b_203_34_1 rfl rfl ?_
        refine ov_getf (v := ov_r 96) d_203_35 fl_Mo_81 ⟨by decide, by rw [C.1]; decide⟩ (C.2.2 90 (by decide) (by decide)) (congrArg ov_r (show (ov_up h1 96 (0 + 2) 10) 90 10 = 96 from t9)) ?_
        refine ov_blk (ls2 := [(0, ov_r 90), (1, ov_i 0), (2, ov_i x2)]) (st2 := [ov_i (-1), ov_i (0 + 3), ov_r 96]) (pc2 := 42) b_203_38_4 rfl rfl ?_
        refine ov_iast d_203_42 ⟨by decide, by rw [C.1]; decide⟩ (C.2.2 96 (by decide) (by decide)) (by decide) ?_
        refine ov_blk (ls2 := [(0, ov_r 90), (1, ov_i 0), (2, ov_i x2)]) (st2 := [ov_r 90]) (pc2 := 44) b_203_43_1 rfl rfl ?_
        refine ov_getf (v := ov_r 96) d_203_44 fl_Mo_81 ⟨by decide, by rw [C.1]; decide⟩ (C.2.2 90 (by decide) (by decide)) (congrArg ov_r (show (ov_up (ov_up h1 96 (0 + 2) 10) 96 (0 + 3) (-1)) 90 10 = 96 from t9)) ?_
        refine ov_blk (ls2 := [(0, ov_r 90), (1, ov_i 0), (2, ov_i x2)]) (st2 := [ov_i (-1), ov_i (0 + 4), ov_r 96]) (pc2 := 51) b_203_47_4 rfl rfl ?_
        refine ov_iast d_203_51 ⟨by decide, by rw [C.1]; decide⟩ (C.2.2 96 (by decide) (by decide)) (by decide) ?_
        refine ov_blk (ls2 := [(0, ov_r 90), (1, ov_i 0), (2, ov_i x2)]) (st2 := [ov_r 90]) (pc2 := 53) b_203_52_1 rfl rfl ?_
        refine ov_getf (v := ov_r 96) d_203_53 fl_Mo_81 ⟨by decide, by rw [C.1]; decide⟩ (C.2.2 90 (by decide) (by decide)) (congrArg ov_r (show (ov_up (ov_up (ov_up h1 96 (0 + 2) 10) 96 (0 + 3) (-1)) 96 (0 + 4) (-1)) 90 10 = 96 from t9)) ?_
        refine ov_blk (ls2 := [(0, ov_r 90), (1, ov_i 0), (2, ov_i x2)]) (st2 := [ov_i 1, ov_i (0 + 9), ov_r 96]) (pc2 := 61) b_203_56_4 rfl rfl ?_
        refine ov_iast d_203_61 ⟨by decide, by rw [C.1]; decide⟩ (C.2.2 96 (by decide) (by decide)) (by decide) ?_
        refine ov_retv (st := []) d_203_62 rfl ⟨rfl, rfl, fun b hb => ?_, ?_⟩
        · show (ov_up (ov_up (ov_up (ov_up h1 96 (0 + 2) 10) 96 (0 + 3) (-1)) 96 (0 + 4) (-1)) 96 (0 + 9) 1) b = h b
          rw [ov_up_ne hb, ov_up_ne hb, ov_up_ne hb, ov_up_ne hb]
          exact E1 b hb
        · show (ov_up (ov_up (ov_up (ov_up h1 96 (0 + 2) 10) 96 (0 + 3) (-1)) 96 (0 + 4) (-1)) 96 (0 + 9) 1) 96 = _
          rw [ov_up_row, ov_up_row, ov_up_row, ov_up_row, A1]
          rfl
      · skip
        refine ov_blk (ls2 := [(0, ov_r 90), (1, ov_i 0), (2, ov_i x2)]) (st2 := [ov_r 90]) (pc2 := 10) b_203_9_1 rfl rfl ?_
        refine ov_getf (v := ov_r 96) d_203_10 fl_Mo_81 ⟨by decide, by rw [C.1]; decide⟩ (C.2.2 90 (by decide) (by decide)) (congrArg ov_r t9) ?_
        refine ov_blk (ls2 := [(0, ov_r 90), (1, ov_i 0), (2, ov_i x2)]) (st2 := [ov_i 0, ov_i (0 + x2), ov_r 96]) (pc2 := 17) b_203_13_4 rfl rfl ?_
        refine ov_iast (n := 680) d_203_17 ⟨by decide, by rw [C.1]; decide⟩ (C.2.2 96 (by decide) (by decide)) (by omega) ?_
        refine ov_blk (ls2 := [(0, ov_r 90), (1, ov_i 0), (2, ov_i (x2 + 1))]) (st2 := []) (pc2 := 21) b_203_18_1 rfl rfl ?_
        refine ov_goto (tgt := 2) d_203_21 (by decide) ?_
        refine ih (x2 + 1) _ (fun b hb => by rw [ov_up_ne hb]; exact E1 b hb) ?_ (by omega) (by omega)
        rw [ov_up_row, A1]
        funext j
        unfold ov_rs
        split <;> rfl
  exact L1 341 0 h (fun _ _ => rfl) hz (by omega) (by omega)
set_option maxHeartbeats 4000000 in
theorem i_Mo_90 {u : ov_U} {z : ov_Z} {h : ov_H} (d : Nat) (hd : 20 ≤ d) (U : ov_cap u) (C : ov_SH 91 z) (hr : h 90 = ov_df 1) (hg : 0 ≤ h (-77) 0 ∧ h (-77) 0 ≤ 800000000) : ov_T u d ov_m202 [ov_r 90] z h (fun r0 z' h' => r0 = none ∧ ov_SH 115 z' ∧ (∀ b : Int, b < 90 → h' b = h b) ∧ ov_N (h', z') z' h' ∧ h' 96 = ov_R96 ∧ h' 97 = (fun _ => 0) ∧ h' 98 = (fun _ => 0) ∧ h' 106 = (fun _ => 0) ∧ h' 90 2 = 0 ∧ h' 90 22 = 1 ∧ h' 90 25 = 0 ∧ h' 90 28 = 0 ∧ h' 100 0 = 0 ∧ h' 91 = ov_T0 91 ∧ h' 95 = ov_T0 95 ∧ st_b0 h') := by
  refine ov_en rfl (Nat.le_of_ble_eq_true rfl) ?_
  show ov_R u d ov_m202 0 [(0, ov_r 90)] [] z h _
  have B := ov_BL_ini (a := 90) C rfl (by decide) hr
  refine ov_blk (ls2 := [(0, ov_r 90)]) (st2 := [ov_r 90]) (pc2 := 1) b_202_0_1 rfl rfl ?_
  refine ov_obi d_202_1 oi_Mo_18 (by decide) (by omega) (Nat.le_of_ble_eq_true rfl) ?_
  refine ov_blk (ls2 := [(0, ov_r 90)]) (st2 := [ov_i 1000, ov_r 90]) (pc2 := 8) b_202_4_2 rfl rfl ?_
  refine ov_Bnewi U B (n := 1000) (Ni := 91) (N := 91) d_202_8 (by decide) rfl (by decide +kernel) (by decide +kernel) rfl (by decide +kernel) (fun z1 h2 B3 => ?_)
  refine ov_BputF B3 (n := 48) (x := 91) d_202_10 fl_Mo_14 rfl rfl nk_2 rfl rfl rfl (fun h4 B5 => ?_)
  refine ov_blk (ls2 := [(0, ov_r 90)]) (st2 := [ov_i 1002, ov_r 90]) (pc2 := 17) b_202_13_2 rfl rfl ?_
  refine ov_Bnewi U B5 (n := 1002) (Ni := 92) (N := 92) d_202_17 (by decide) rfl (by decide +kernel) (by decide +kernel) rfl (by decide +kernel) (fun z6 h7 B8 => ?_)
  refine ov_BputF B8 (n := 48) (x := 92) d_202_19 fl_Mo_24 rfl rfl nk_2 rfl rfl rfl (fun h9 B10 => ?_)
  refine ov_blk (ls2 := [(0, ov_r 90)]) (st2 := [ov_i 1002, ov_r 90]) (pc2 := 26) b_202_22_2 rfl rfl ?_
  refine ov_Bnewi U B10 (n := 1002) (Ni := 93) (N := 93) d_202_26 (by decide) rfl (by decide +kernel) (by decide +kernel) rfl (by decide +kernel) (fun z11 h12 B13 => ?_)
  refine ov_BputF B13 (n := 48) (x := 93) d_202_28 fl_Mo_27 rfl rfl nk_2 rfl rfl rfl (fun h14 B15 => ?_)
  refine ov_blk (ls2 := [(0, ov_r 90)]) (st2 := [ov_i 1002, ov_r 90]) (pc2 := 35) b_202_31_2 rfl rfl ?_
  refine ov_Bnewl U B15 (n := 1002) (Ni := 94) (N := 94) d_202_35 (by decide) rfl (by decide +kernel) (by decide +kernel) rfl (by decide +kernel) (fun z16 h17 B18 => ?_)
  refine ov_BputF B18 (n := 48) (x := 94) d_202_37 fl_Mo_30 rfl rfl nk_2 rfl rfl rfl (fun h19 B20 => ?_)
  refine ov_blk (ls2 := [(0, ov_r 90)]) (st2 := [ov_i 22, ov_r 90]) (pc2 := 43) b_202_40_2 rfl rfl ?_
  refine ov_BnewlH U B20 (n := 22) (Ni := 95) (N := 95) d_202_43 (by decide) rfl (by decide +kernel) (by decide +kernel) (by decide +kernel) (fun z21 h22 B23 => ?_)
  refine ov_blk (ls2 := [(0, ov_r 90)]) (st2 := [ov_i 0, ov_r 95, ov_r 95, ov_r 90]) (pc2 := 47) b_202_45_2 rfl rfl ?_
  refine ov_ldc2 (n := 1034460) d_202_47 kc_Mo_34 ?_
  refine ov_Blst B23 (n := 22) (i := 0) (x := 1034460) d_202_50 (by decide) rfl (by decide) (fun h24 B25 => ?_)
  refine ov_blk (ls2 := [(0, ov_r 90)]) (st2 := [ov_i 1, ov_r 95, ov_r 95, ov_r 90]) (pc2 := 53) b_202_51_2 rfl rfl ?_
  refine ov_ldc2 (n := 22955708) d_202_53 kc_Mo_36 ?_
  refine ov_Blst B25 (n := 22) (i := 1) (x := 22955708) d_202_56 (by decide) rfl (by decide) (fun h26 B27 => ?_)
  refine ov_blk (ls2 := [(0, ov_r 90)]) (st2 := [ov_i 2, ov_r 95, ov_r 95, ov_r 90]) (pc2 := 59) b_202_57_2 rfl rfl ?_
  refine ov_ldc2 (n := 2793) d_202_59 kc_Mo_38 ?_
  refine ov_Blst B27 (n := 22) (i := 2) (x := 2793) d_202_62 (by decide) rfl (by decide) (fun h28 B29 => ?_)
  refine ov_blk (ls2 := [(0, ov_r 90)]) (st2 := [ov_i 3, ov_r 95, ov_r 95, ov_r 90]) (pc2 := 65) b_202_63_2 rfl rfl ?_
  refine ov_ldc2 (n := 940952) d_202_65 kc_Mo_40 ?_
  refine ov_Blst B29 (n := 22) (i := 3) (x := 940952) d_202_68 (by decide) rfl (by decide) (fun h30 B31 => ?_)
  refine ov_blk (ls2 := [(0, ov_r 90)]) (st2 := [ov_i 4, ov_r 95, ov_r 95, ov_r 90]) (pc2 := 71) b_202_69_2 rfl rfl ?_
  refine ov_ldc2 (n := 1166843) d_202_71 kc_Mo_42 ?_
  refine ov_Blst B31 (n := 22) (i := 4) (x := 1166843) d_202_74 (by decide) rfl (by decide) (fun h32 B33 => ?_)
  refine ov_blk (ls2 := [(0, ov_r 90)]) (st2 := [ov_i 5, ov_r 95, ov_r 95, ov_r 90]) (pc2 := 77) b_202_75_2 rfl rfl ?_
  refine ov_ldc2 (n := 25433) d_202_77 kc_Mo_44 ?_
  refine ov_Blst B33 (n := 22) (i := 5) (x := 25433) d_202_80 (by decide) rfl (by decide) (fun h34 B35 => ?_)
  refine ov_blk (ls2 := [(0, ov_r 90)]) (st2 := [ov_i 6, ov_r 95, ov_r 95, ov_r 90]) (pc2 := 84) b_202_81_2 rfl rfl ?_
  refine ov_ldc2 (n := 979413) d_202_84 kc_Mo_46 ?_
  refine ov_Blst B35 (n := 22) (i := 6) (x := 979413) d_202_87 (by decide) rfl (by decide) (fun h36 B37 => ?_)
  refine ov_blk (ls2 := [(0, ov_r 90)]) (st2 := [ov_i 7, ov_r 95, ov_r 95, ov_r 90]) (pc2 := 91) b_202_88_2 rfl rfl ?_
  refine ov_ldc2 (n := 941040) d_202_91 kc_Mo_48 ?_
  refine ov_Blst B37 (n := 22) (i := 7) (x := 941040) d_202_94 (by decide) rfl (by decide) (fun h38 B39 => ?_)
  refine ov_blk (ls2 := [(0, ov_r 90)]) (st2 := [ov_i 8, ov_r 95, ov_r 95, ov_r 90]) (pc2 := 98) b_202_95_2 rfl rfl ?_
  refine ov_ldc2 (n := 6040476) d_202_98 kc_Mo_50 ?_
  refine ov_Blst B39 (n := 22) (i := 8) (x := 6040476) d_202_101 (by decide) rfl (by decide) (fun h40 B41 => ?_)
  refine ov_blk (ls2 := [(0, ov_r 90)]) (st2 := [ov_i 9, ov_r 95, ov_r 95, ov_r 90]) (pc2 := 105) b_202_102_2 rfl rfl ?_
  refine ov_ldc2 (n := 34523964) d_202_105 kc_Mo_52 ?_
  refine ov_Blst B41 (n := 22) (i := 9) (x := 34523964) d_202_108 (by decide) rfl (by decide) (fun h42 B43 => ?_)
  refine ov_blk (ls2 := [(0, ov_r 90)]) (st2 := [ov_i 10, ov_r 95, ov_r 95, ov_r 90]) (pc2 := 112) b_202_109_2 rfl rfl ?_
  refine ov_ldc2 (n := 790116) d_202_112 kc_Mo_54 ?_
  refine ov_Blst B43 (n := 22) (i := 10) (x := 790116) d_202_115 (by decide) rfl (by decide) (fun h44 B45 => ?_)
  refine ov_blk (ls2 := [(0, ov_r 90)]) (st2 := [ov_i 11, ov_r 95, ov_r 95, ov_r 90]) (pc2 := 119) b_202_116_2 rfl rfl ?_
  refine ov_ldc2 (n := 569) d_202_119 kc_Mo_56 ?_
  refine ov_Blst B45 (n := 22) (i := 11) (x := 569) d_202_122 (by decide) rfl (by decide) (fun h46 B47 => ?_)
  refine ov_blk (ls2 := [(0, ov_r 90)]) (st2 := [ov_i 12, ov_r 95, ov_r 95, ov_r 90]) (pc2 := 126) b_202_123_2 rfl rfl ?_
  refine ov_ldc2 (n := 8787) d_202_126 kc_Mo_58 ?_
  refine ov_Blst B47 (n := 22) (i := 12) (x := 8787) d_202_129 (by decide) rfl (by decide) (fun h48 B49 => ?_)
  refine ov_blk (ls2 := [(0, ov_r 90)]) (st2 := [ov_i 13, ov_r 95, ov_r 95, ov_r 90]) (pc2 := 133) b_202_130_2 rfl rfl ?_
  refine ov_ldc2 (n := 6250976) d_202_133 kc_Mo_60 ?_
  refine ov_Blst B49 (n := 22) (i := 13) (x := 6250976) d_202_136 (by decide) rfl (by decide) (fun h50 B51 => ?_)
  refine ov_blk (ls2 := [(0, ov_r 90)]) (st2 := [ov_i 14, ov_r 95, ov_r 95, ov_r 90]) (pc2 := 140) b_202_137_2 rfl rfl ?_
  refine ov_ldc2 (n := 571827392) d_202_140 kc_Mo_62 ?_
  refine ov_Blst B51 (n := 22) (i := 14) (x := 571827392) d_202_143 (by decide) rfl (by decide) (fun h52 B53 => ?_)
  refine ov_blk (ls2 := [(0, ov_r 90)]) (st2 := [ov_i 15, ov_r 95, ov_r 95, ov_r 90]) (pc2 := 147) b_202_144_2 rfl rfl ?_
  refine ov_ldc2 (n := 179086304) d_202_147 kc_Mo_64 ?_
  refine ov_Blst B53 (n := 22) (i := 15) (x := 179086304) d_202_150 (by decide) rfl (by decide) (fun h54 B55 => ?_)
  refine ov_blk (ls2 := [(0, ov_r 90)]) (st2 := [ov_i 16, ov_r 95, ov_r 95, ov_r 90]) (pc2 := 154) b_202_151_2 rfl rfl ?_
  refine ov_ldc2 (n := 1138236000) d_202_154 kc_Mo_66 ?_
  refine ov_Blst B55 (n := 22) (i := 16) (x := 1138236000) d_202_157 (by decide) rfl (by decide) (fun h56 B57 => ?_)
  refine ov_blk (ls2 := [(0, ov_r 90)]) (st2 := [ov_i 17, ov_r 95, ov_r 95, ov_r 90]) (pc2 := 161) b_202_158_2 rfl rfl ?_
  refine ov_ldc2 (n := 19741) d_202_161 kc_Mo_68 ?_
  refine ov_Blst B57 (n := 22) (i := 17) (x := 19741) d_202_164 (by decide) rfl (by decide) (fun h58 B59 => ?_)
  refine ov_blk (ls2 := [(0, ov_r 90)]) (st2 := [ov_i 18, ov_r 95, ov_r 95, ov_r 90]) (pc2 := 168) b_202_165_2 rfl rfl ?_
  refine ov_ldc2 (n := 1891) d_202_168 kc_Mo_70 ?_
  refine ov_Blst B59 (n := 22) (i := 18) (x := 1891) d_202_171 (by decide) rfl (by decide) (fun h60 B61 => ?_)
  refine ov_blk (ls2 := [(0, ov_r 90)]) (st2 := [ov_i 19, ov_r 95, ov_r 95, ov_r 90]) (pc2 := 175) b_202_172_2 rfl rfl ?_
  refine ov_ldc2 (n := 573) d_202_175 kc_Mo_72 ?_
  refine ov_Blst B61 (n := 22) (i := 19) (x := 573) d_202_178 (by decide) rfl (by decide) (fun h62 B63 => ?_)
  refine ov_blk (ls2 := [(0, ov_r 90)]) (st2 := [ov_i 20, ov_r 95, ov_r 95, ov_r 90]) (pc2 := 182) b_202_179_2 rfl rfl ?_
  refine ov_ldc2 (n := 614923) d_202_182 kc_Mo_74 ?_
  refine ov_Blst B63 (n := 22) (i := 20) (x := 614923) d_202_185 (by decide) rfl (by decide) (fun h64 B65 => ?_)
  refine ov_blk (ls2 := [(0, ov_r 90)]) (st2 := [ov_i 21, ov_r 95, ov_r 95, ov_r 90]) (pc2 := 189) b_202_186_2 rfl rfl ?_
  refine ov_ldc2 (n := 793) d_202_189 kc_Mo_76 ?_
  refine ov_Blst B65 (n := 22) (i := 21) (x := 793) d_202_192 (by decide) rfl (by decide) (fun h66 B67 => ?_)
  refine ov_BputF B67 (n := 48) (x := 95) d_202_193 fl_Mo_78 rfl rfl nk_2 rfl rfl rfl (fun h68 B69 => ?_)
  have B70 := ov_BL_close B69 (by decide) rfl
  refine ov_blk (ls2 := [(0, ov_r 90)]) (st2 := [ov_i 680, ov_r 90]) (pc2 := 200) b_202_196_2 rfl rfl ?_
  refine ov_Bnewi U B70 (n := 680) (Ni := 96) (N := 96) d_202_200 (by decide) rfl (by decide +kernel) (by decide +kernel) rfl (by decide +kernel) (fun z71 h72 B73 => ?_)
  refine ov_BputF B73 (n := 48) (x := 96) d_202_202 fl_Mo_81 rfl rfl nk_2 rfl rfl rfl (fun h74 B75 => ?_)
  refine ov_blk (ls2 := [(0, ov_r 90)]) (st2 := [ov_i 2200, ov_r 90]) (pc2 := 209) b_202_205_2 rfl rfl ?_
  refine ov_Bnewi U B75 (n := 2200) (Ni := 97) (N := 97) d_202_209 (by decide) rfl (by decide +kernel) (by decide +kernel) rfl (by decide +kernel) (fun z76 h77 B78 => ?_)
  refine ov_BputF B78 (n := 48) (x := 97) d_202_211 fl_Mo_84 rfl rfl nk_2 rfl rfl rfl (fun h79 B80 => ?_)
  refine ov_blk (ls2 := [(0, ov_r 90)]) (st2 := [ov_i 2200, ov_r 90]) (pc2 := 218) b_202_214_2 rfl rfl ?_
  refine ov_Bnewi U B80 (n := 2200) (Ni := 98) (N := 98) d_202_218 (by decide) rfl (by decide +kernel) (by decide +kernel) rfl (by decide +kernel) (fun z81 h82 B83 => ?_)
  refine ov_BputF B83 (n := 48) (x := 98) d_202_220 fl_Mo_87 rfl rfl nk_2 rfl rfl rfl (fun h84 B85 => ?_)
  refine ov_blk (ls2 := [(0, ov_r 90)]) (st2 := [ov_i 4, ov_r 90]) (pc2 := 225) b_202_223_2 rfl rfl ?_
  refine ov_Bnewl U B85 (n := 4) (Ni := 99) (N := 99) d_202_225 (by decide) rfl (by decide +kernel) (by decide +kernel) rfl (by decide +kernel) (fun z86 h87 B88 => ?_)
  refine ov_BputF B88 (n := 48) (x := 99) d_202_227 fl_Mo_90 rfl rfl nk_2 rfl rfl rfl (fun h89 B90 => ?_)
  refine ov_blk (ls2 := [(0, ov_r 90)]) (st2 := [ov_i 60, ov_r 90]) (pc2 := 233) b_202_230_2 rfl rfl ?_
  refine ov_Bnewi U B90 (n := 60) (Ni := 100) (N := 100) d_202_233 (by decide) rfl (by decide +kernel) (by decide +kernel) rfl (by decide +kernel) (fun z91 h92 B93 => ?_)
  refine ov_BputF B93 (n := 48) (x := 100) d_202_235 fl_Mo_93 rfl rfl nk_2 rfl rfl rfl (fun h94 B95 => ?_)
  refine ov_blk (ls2 := [(0, ov_r 90)]) (st2 := [ov_i 4, ov_r 90]) (pc2 := 240) b_202_238_2 rfl rfl ?_
  refine ov_Bnewi U B95 (n := 4) (Ni := 101) (N := 101) d_202_240 (by decide) rfl (by decide +kernel) (by decide +kernel) rfl (by decide +kernel) (fun z96 h97 B98 => ?_)
  refine ov_BputF B98 (n := 48) (x := 101) d_202_242 fl_Mo_96 rfl rfl nk_2 rfl rfl rfl (fun h99 B100 => ?_)
  refine ov_blk (ls2 := [(0, ov_r 90)]) (st2 := [ov_i 1100, ov_r 90]) (pc2 := 249) b_202_245_2 rfl rfl ?_
  refine ov_Bnewi U B100 (n := 1100) (Ni := 102) (N := 102) d_202_249 (by decide) rfl (by decide +kernel) (by decide +kernel) rfl (by decide +kernel) (fun z101 h102 B103 => ?_)
  refine ov_BputF B103 (n := 48) (x := 102) d_202_251 fl_Mo_99 rfl rfl nk_2 rfl rfl rfl (fun h104 B105 => ?_)
  refine ov_blk (ls2 := [(0, ov_r 90)]) (st2 := [ov_i 2520, ov_r 90]) (pc2 := 258) b_202_254_2 rfl rfl ?_
  refine ov_Bnewi U B105 (n := 2520) (Ni := 103) (N := 103) d_202_258 (by decide) rfl (by decide +kernel) (by decide +kernel) rfl (by decide +kernel) (fun z106 h107 B108 => ?_)
  refine ov_BputF B108 (n := 48) (x := 103) d_202_260 fl_Mo_102 rfl rfl nk_2 rfl rfl rfl (fun h109 B110 => ?_)
  refine ov_blk (ls2 := [(0, ov_r 90)]) (st2 := [ov_i 4, ov_r 90]) (pc2 := 265) b_202_263_2 rfl rfl ?_
  refine ov_Bnewz U B110 (n := 4) (Ni := 104) (N := 104) d_202_265 (by decide) rfl (by decide +kernel) (by decide +kernel) rfl (by decide +kernel) (fun z111 h112 B113 => ?_)
  refine ov_BputF B113 (n := 48) (x := 104) d_202_267 fl_Mo_105 rfl rfl nk_2 rfl rfl rfl (fun h114 B115 => ?_)
  refine ov_blk (ls2 := [(0, ov_r 90)]) (st2 := [ov_r 90]) (pc2 := 271) b_202_270_1 rfl rfl ?_
  refine ov_ldc (n := 64800) d_202_271 kc_Mo_109 ?_
  refine ov_Bnewi U B115 (n := 64800) (Ni := 105) (N := 105) d_202_273 (by decide) rfl (by decide +kernel) (by decide +kernel) rfl (by decide +kernel) (fun z116 h117 B118 => ?_)
  refine ov_BputF B118 (n := 48) (x := 105) d_202_275 fl_Mo_110 rfl rfl nk_2 rfl rfl rfl (fun h119 B120 => ?_)
  refine ov_blk (ls2 := [(0, ov_r 90)]) (st2 := [ov_r 90]) (pc2 := 279) b_202_278_1 rfl rfl ?_
  refine ov_ldc (n := 64800) d_202_279 kc_Mo_109 ?_
  refine ov_Bnewi U B120 (n := 64800) (Ni := 106) (N := 106) d_202_281 (by decide) rfl (by decide +kernel) (by decide +kernel) rfl (by decide +kernel) (fun z121 h122 B123 => ?_)
  refine ov_BputF B123 (n := 48) (x := 106) d_202_283 fl_Mo_113 rfl rfl nk_2 rfl rfl rfl (fun h124 B125 => ?_)
  refine ov_blk (ls2 := [(0, ov_r 90)]) (st2 := [ov_i (-1), ov_r 90]) (pc2 := 288) b_202_286_2 rfl rfl ?_
  refine ov_Bput B125 (n := 48) (x := (-1)) d_202_288 fl_Mo_116 rfl rfl nk_0 rfl (fun h126 B127 => ?_)
  refine ov_blk (ls2 := [(0, ov_r 90)]) (st2 := [ov_i (-1), ov_r 90]) (pc2 := 293) b_202_291_2 rfl rfl ?_
  refine ov_Bput B127 (n := 48) (x := (-1)) d_202_293 fl_Mo_119 rfl rfl nk_0 rfl (fun h128 B129 => ?_)
  refine ov_blk (ls2 := [(0, ov_r 90)]) (st2 := [ov_r 90]) (pc2 := 297) b_202_296_1 rfl rfl ?_
  refine ov_ldc (n := 64800) d_202_297 kc_Mo_109 ?_
  refine ov_Bnewi U B129 (n := 64800) (Ni := 107) (N := 107) d_202_299 (by decide) rfl (by decide +kernel) (by decide +kernel) rfl (by decide +kernel) (fun z130 h131 B132 => ?_)
  refine ov_BputF B132 (n := 48) (x := 107) d_202_301 fl_Mo_122 rfl rfl nk_2 rfl rfl rfl (fun h133 B134 => ?_)
  refine ov_blk (ls2 := [(0, ov_r 90)]) (st2 := [ov_r 90]) (pc2 := 305) b_202_304_1 rfl rfl ?_
  refine ov_ldc (n := 64800) d_202_305 kc_Mo_109 ?_
  refine ov_Bnewi U B134 (n := 64800) (Ni := 108) (N := 108) d_202_307 (by decide) rfl (by decide +kernel) (by decide +kernel) rfl (by decide +kernel) (fun z135 h136 B137 => ?_)
  refine ov_BputF B137 (n := 48) (x := 108) d_202_309 fl_Mo_125 rfl rfl nk_2 rfl rfl rfl (fun h138 B139 => ?_)
  refine ov_blk (ls2 := [(0, ov_r 90)]) (st2 := [ov_r 90]) (pc2 := 313) b_202_312_1 rfl rfl ?_
  refine ov_ldc (n := 156000) d_202_313 kc_Mo_128 ?_
  refine ov_Bnewi U B139 (n := 156000) (Ni := 109) (N := 109) d_202_315 (by decide) rfl (by decide +kernel) (by decide +kernel) rfl (by decide +kernel) (fun z140 h141 B142 => ?_)
  refine ov_BputF B142 (n := 48) (x := 109) d_202_317 fl_Mo_129 rfl rfl nk_2 rfl rfl rfl (fun h143 B144 => ?_)
  refine ov_blk (ls2 := [(0, ov_r 90)]) (st2 := [ov_i 240, ov_r 90]) (pc2 := 324) b_202_320_2 rfl rfl ?_
  refine ov_Bnewl U B144 (n := 240) (Ni := 110) (N := 110) d_202_324 (by decide) rfl (by decide +kernel) (by decide +kernel) rfl (by decide +kernel) (fun z145 h146 B147 => ?_)
  refine ov_BputF B147 (n := 48) (x := 110) d_202_326 fl_Mo_132 rfl rfl nk_2 rfl rfl rfl (fun h148 B149 => ?_)
  refine ov_blk (ls2 := [(0, ov_r 90)]) (st2 := [ov_i 240, ov_r 90]) (pc2 := 333) b_202_329_2 rfl rfl ?_
  refine ov_Bnewl U B149 (n := 240) (Ni := 111) (N := 111) d_202_333 (by decide) rfl (by decide +kernel) (by decide +kernel) rfl (by decide +kernel) (fun z150 h151 B152 => ?_)
  refine ov_BputF B152 (n := 48) (x := 111) d_202_335 fl_Mo_135 rfl rfl nk_2 rfl rfl rfl (fun h153 B154 => ?_)
  refine ov_blk (ls2 := [(0, ov_r 90)]) (st2 := [ov_i 4, ov_r 90]) (pc2 := 340) b_202_338_2 rfl rfl ?_
  refine ov_Bnewi U B154 (n := 4) (Ni := 112) (N := 112) d_202_340 (by decide) rfl (by decide +kernel) (by decide +kernel) rfl (by decide +kernel) (fun z155 h156 B157 => ?_)
  refine ov_BputF B157 (n := 48) (x := 112) d_202_342 fl_Mo_138 rfl rfl nk_2 rfl rfl rfl (fun h158 B159 => ?_)
  refine ov_blk (ls2 := [(0, ov_r 90)]) (st2 := [ov_i 4, ov_r 90]) (pc2 := 347) b_202_345_2 rfl rfl ?_
  refine ov_Bnewi U B159 (n := 4) (Ni := 113) (N := 113) d_202_347 (by decide) rfl (by decide +kernel) (by decide +kernel) rfl (by decide +kernel) (fun z160 h161 B162 => ?_)
  refine ov_BputF B162 (n := 48) (x := 113) d_202_349 fl_Mo_141 rfl rfl nk_2 rfl rfl rfl (fun h163 B164 => ?_)
  refine ov_blk (ls2 := [(0, ov_r 90)]) (st2 := [ov_i 54, ov_r 90]) (pc2 := 355) b_202_352_2 rfl rfl ?_
  refine ov_Bnewi U B164 (n := 54) (Ni := 114) (N := 114) d_202_355 (by decide) rfl (by decide +kernel) (by decide +kernel) rfl (by decide +kernel) (fun z165 h166 B167 => ?_)
  refine ov_BputF B167 (n := 48) (x := 114) d_202_357 fl_Mo_144 rfl rfl nk_2 rfl rfl rfl (fun h168 B169 => ?_)
  have t9 : h168 90 10 = 96 := by rw [B169.2.2.2.1]; rfl
  refine ov_blk (ls2 := [(0, ov_r 90)]) (st2 := [ov_i 0, ov_r 90]) (pc2 := 362) b_202_360_2 rfl rfl ?_
  refine ov_cV (as := [ov_i 0]) (st := []) (d2 := d - 1) d_202_362 lk_Mo_147 rfl (Nat.le_of_ble_eq_true rfl) (c := 1) ⟨by decide, by rw [B169.1.1]; decide⟩ (B169.1.2.2 90 (by decide) (by decide)) ⟨by decide, rfl⟩ (by omega) (i_stand (d - 1) U B169.1 t9 (B169.2.2.1 96 (by decide) (by decide) (by decide))) ?_
  rintro _ _ h7 ⟨rfl, rfl, E7, R7⟩
  have u9 : h7 90 10 = 96 := by rw [E7 90 (by decide)]; exact t9
  show ov_R u d ov_m202 365 [(0, ov_r 90)] [] _ h7 _
  refine ov_blk (ls2 := [(0, ov_r 90)]) (st2 := [ov_r 90]) (pc2 := 366) b_202_365_1 rfl rfl ?_
  refine ov_getf (v := ov_r 96) d_202_366 fl_Mo_81 ⟨by decide, by rw [B169.1.1]; decide⟩ (B169.1.2.2 90 (by decide) (by decide)) (congrArg ov_r (show h7 90 10 = 96 from u9)) ?_
  refine ov_blk (ls2 := [(0, ov_r 90)]) (st2 := [ov_i 1, ov_i 0, ov_r 96]) (pc2 := 371) b_202_369_2 rfl rfl ?_
  refine ov_iast d_202_371 ⟨by decide, by rw [B169.1.1]; decide⟩ (B169.1.2.2 96 (by decide) (by decide)) (by decide) ?_
  refine ov_blk (ls2 := [(0, ov_r 90)]) (st2 := [ov_r 90]) (pc2 := 373) b_202_372_1 rfl rfl ?_
  refine ov_getf (v := ov_r 96) d_202_373 fl_Mo_81 ⟨by decide, by rw [B169.1.1]; decide⟩ (B169.1.2.2 90 (by decide) (by decide)) (congrArg ov_r (show (ov_up h7 96 0 1) 90 10 = 96 from u9)) ?_
  refine ov_blk (ls2 := [(0, ov_r 90)]) (st2 := [ov_i 1, ov_i 1, ov_r 96]) (pc2 := 378) b_202_376_2 rfl rfl ?_
  refine ov_iast d_202_378 ⟨by decide, by rw [B169.1.1]; decide⟩ (B169.1.2.2 96 (by decide) (by decide)) (by decide) ?_
  have E8 : ∀ b : Int, b ≠ 96 → (ov_up (ov_up h7 96 0 1) 96 1 1) b = h168 b := fun b hb => by rw [ov_up_ne hb, ov_up_ne hb]; exact E7 b hb
  have R8 : (ov_up (ov_up h7 96 0 1) 96 1 1) 96 = ov_R96 := by rw [ov_up_row, ov_up_row, R7]
  generalize (ov_up (ov_up h7 96 0 1) 96 1 1) = h8 at E8 R8 ⊢
  have r90 : h8 90 = ov_T0 90 := by rw [E8 90 (by decide), B169.2.2.2.1]; rfl
  have rT : ∀ b : Int, 90 ≤ b → b < 115 → b ≠ 96 → h8 b = ov_T0 b := fun b h0 h1 h2 => by
    by_cases eb : b = 90
    · rw [eb]; exact r90
    · rw [E8 b h2]; exact B169.2.2.1 b (by omega) h1 (by omega)
  have rL : ∀ b : Int, b < 90 → h8 b = h b := fun b hb => by rw [E8 b (by omega)]; exact B169.2.1 b hb
  have N0 : ov_N (h8, z165) z165 h8 := ⟨rfl, ⟨by rw [B169.1.1]; decide, fun a h0 h1 => B169.1.2.2 a h0 h1⟩, fun a k h0 h1 => by
    have hB : 0 ≤ ov_bd (h8, z165) := by show 0 ≤ h8 (-77) 0; rw [rL (-77) (by decide)]; exact hg.1
    by_cases e6 : a = 96
    · rw [e6, R8]
      exact om_96 k
    · rw [rT a h0 h1 e6]
      have q := ov_T0_mr hB (a.toNat - 90) k (by omega) (by omega)
      rw [show 90 + (a.toNat - 90) = a.toNat by omega, Int.toNat_of_nonneg (by omega)] at q
      exact q, fun _ _ => rfl⟩
  refine ov_blk (ls2 := [(0, ov_r 90)]) (st2 := [ov_r 90]) (pc2 := 380) b_202_379_1 rfl rfl ?_
  refine ov_cV (as := []) (st := []) (d2 := d - 1) d_202_380 lk_Mo_151 rfl (Nat.le_of_ble_eq_true rfl) (c := 1) (zb_90 N0) (zs_90 N0) ⟨by decide, rfl⟩ (by omega) (c_Mo_begins_90_m (d - 1) (by omega) U N0 (by show 0 ≤ h8 (-77) 0 ∧ h8 (-77) 0 ≤ 800000000; rw [rL (-77) (by decide)]; exact hg) (by rw [r90]; decide +kernel)) ?_
  rintro _ z9 h9 ⟨⟨rfl, N9, f9, e91, e92, e93, e94, e95, e96, e97, e98, e99, e105, e106, e109, e114⟩, b9⟩
  obtain rfl : z9 = _ := N9.1
  show ov_R u d ov_m202 383 [(0, ov_r 90)] [] _ h9 _
  have v : ∀ k : Int, h8 90 k = ov_T0 90 k := fun k => by rw [r90]
  have v2 := v 2
  have v22 := v 22
  have v25 := v 25
  have v28 := v 28
  have w2 : ov_T0 90 2 = 0 := rfl
  have w22 : ov_T0 90 22 = 0 := rfl
  have w25 : ov_T0 90 25 = 0 := rfl
  have w28 : ov_T0 90 28 = 0 := rfl
  have kb : ∀ b : Int, b < 90 → h9 b = h b := fun b hb => by rw [N9.2.2.2 b (Or.inl hb)]; exact rL b hb
  refine ov_retv (st := []) d_202_383 rfl ⟨rfl, B169.1, kb, ⟨rfl, N9.2.1, fun a k h0 h1 => ?_, fun _ _ => rfl⟩, e96.trans R8, e97.trans (rT 97 (by decide) (by decide) (by decide)), e98.trans (rT 98 (by decide) (by decide) (by decide)), e106.trans (rT 106 (by decide) (by decide) (by decide)), by omega, by omega, by omega, by omega, by omega, e91.trans (rT 91 (by decide) (by decide) (by decide)), e95.trans (rT 95 (by decide) (by decide) (by decide)), b9⟩
  have q := N9.2.2.1 a k h0 h1
  have eb : ov_bd (h8, z9) = ov_bd (h9, z9) := by show h8 (-77) 0 = h9 (-77) 0; rw [N9.2.2.2 (-77) (Or.inl (by decide))]
  rw [eb] at q
  exact q

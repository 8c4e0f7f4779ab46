/-! marks laid, gone back to -/
def mk_at (a b c d m : Int) : Int := if m = 0 then a else if m = 1 then b else if m = 2 then c else d
def mk_ans (a b c d m k : Int) : Int := if 0 ≤ m ∧ m ≤ 3 ∧ (k = 0 ∨ mk_at a b c d m = 1) then 1 else 0
def mk_row (r m j x : Int) : Int := if r = 1 ∧ m = j then 1 else x
theorem mk_at_e {f : Int → Int} {m : Int} (h : 0 ≤ m ∧ m ≤ 3) : mk_at (f 0) (f 1) (f 2) (f 3) m = f m := by
  have c : m = 0 ∨ m = 1 ∨ m = 2 ∨ m = 3 := by omega
  rcases c with rfl | rfl | rfl | rfl <;> rfl
theorem mk_row_0 {m j x : Int} : mk_row 0 m j x = x := by
  unfold mk_row
  rw [if_neg (fun q => absurd q.1 (by decide))]
theorem mk_row_1 {m j x : Int} (e : m = j → x = 1) : mk_row 1 m j x = x := by
  unfold mk_row
  split
  · rename_i q
    exact (e q.2).symm
  · rfl
theorem mk_row_u {f : Int → Int} {m j : Int} : ov_rs f m 1 j = mk_row 1 m j (f j) := by
  unfold mk_row
  by_cases e : m = j
  · rw [if_pos ⟨rfl, e⟩, e, ov_rs_eq]
  · rw [if_neg (fun q => e q.2), ov_rs_ne (fun q => e q.symm)]

abbrev P_fMo_within (F : ov_H × ov_Z) (z : ov_Z) (h : ov_H) (v : Int) (lo : Int) (hi : Int) : Option ov_V → ov_Z → ov_H → Prop := fun r0 z' h' => ∃ r : Int, r0 = some (ov_i r) ∧ z = z' ∧ h = h' ∧ ((r = 0 ∧ (v < lo ∨ hi < v)) ∨ (r = 1 ∧ (lo ≤ v ∧ v ≤ hi)))
set_option maxHeartbeats 4000000 in
theorem c_fMo_within {u : ov_U} {F : ov_H × ov_Z} {z : ov_Z} {h : ov_H} (d : Nat) (hd : 0 ≤ d) (U : ov_cap u) (I : ov_N F z h) (v : Int) (lo : Int) (hi : Int) (g_v : ov_g v) (g_lo : ov_g lo) (g_hi : ov_g hi) : ov_T u d ov_m241 [ov_i v, ov_i lo, ov_i hi] z h (P_fMo_within F z h v lo hi) := by
  refine ov_en rfl (Nat.le_of_ble_eq_true rfl) ?_
  show ov_R u d ov_m241 0 [(0, ov_i v), (1, ov_i lo), (2, ov_i hi)] [] z h (P_fMo_within F z h v lo hi)
  refine ov_blk (ls2 := [(0, ov_i v), (1, ov_i lo), (2, ov_i hi)]) (st2 := [ov_i lo, ov_i v]) (pc2 := 2) b_241_0_2 rfl rfl ?_
  refine ov_iclt (tgt := 14) d_241_2 (by decide) (by omega) (by omega) (fun c1 => ?_) (fun c1 => ?_)
  · skip
    refine ov_blk (ls2 := [(0, ov_i v), (1, ov_i lo), (2, ov_i hi)]) (st2 := [ov_i 0]) (pc2 := 15) b_241_14_1 rfl rfl ?_
    exact ov_retz (st := []) d_241_15 rfl (by omega) ⟨_, rfl, rfl, rfl, (Or.inl ⟨rfl, (by show v < lo ∨ hi < v; omega)⟩)⟩
  · skip
    refine ov_blk (ls2 := [(0, ov_i v), (1, ov_i lo), (2, ov_i hi)]) (st2 := [ov_i hi, ov_i v]) (pc2 := 7) b_241_5_2 rfl rfl ?_
    refine ov_icgt (tgt := 14) d_241_7 (by decide) (by omega) (by omega) (fun c2 => ?_) (fun c2 => ?_)
    · skip
      refine ov_blk (ls2 := [(0, ov_i v), (1, ov_i lo), (2, ov_i hi)]) (st2 := [ov_i 0]) (pc2 := 15) b_241_14_1 rfl rfl ?_
      exact ov_retz (st := []) d_241_15 rfl (by omega) ⟨_, rfl, rfl, rfl, (Or.inl ⟨rfl, (by show v < lo ∨ hi < v; omega)⟩)⟩
    · skip
      refine ov_blk (ls2 := [(0, ov_i v), (1, ov_i lo), (2, ov_i hi)]) (st2 := [ov_i 1]) (pc2 := 11) b_241_10_1 rfl rfl ?_
      refine ov_goto (tgt := 15) d_241_11 (by decide) ?_
      exact ov_retz (st := []) d_241_15 rfl (by omega) ⟨_, rfl, rfl, rfl, (Or.inr ⟨rfl, (by show lo ≤ v ∧ v ≤ hi; omega)⟩)⟩
abbrev P_fMo_copies_90 (F : ov_H × ov_Z) (z : ov_Z) (h : ov_H) (fr : Int) (tt : Int) (m : Int) : Option ov_V → ov_Z → ov_H → Prop := fun r0 z' h' => r0 = none ∧ ov_N F z' h' ∧ (∀ a : Int, a ≠ 103 → h' a = h a)
set_option maxHeartbeats 4000000 in
theorem c_fMo_copies_90 {u : ov_U} {F : ov_H × ov_Z} {z : ov_Z} {h : ov_H} (d : Nat) (hd : 0 ≤ d) (U : ov_cap u) (I : ov_N F z h) (fr : Int) (tt : Int) (m : Int) (g_fr : ov_g fr) (g_tt : ov_g tt) (g_m : ov_g m) (p0 : 0 ≤ fr ∧ fr ≤ 20) (p1 : 0 ≤ tt ∧ tt ≤ 20) (p2 : 0 ≤ m ∧ m ≤ 120) : ov_T u d ov_m255 [ov_r 90, ov_i fr, ov_i tt, ov_i m] z h (P_fMo_copies_90 F z h fr tt m) := by
  refine ov_en rfl (Nat.le_of_ble_eq_true rfl) ?_
  show ov_R u d ov_m255 0 [(0, ov_r 90), (1, ov_i fr), (2, ov_i tt), (3, ov_i m)] [] z h (P_fMo_copies_90 F z h fr tt m)
  refine ov_blk (ls2 := [(0, ov_r 90), (1, ov_i fr), (2, ov_i tt), (3, ov_i m), (4, ov_i 0)]) (st2 := []) (pc2 := 3) b_255_0_2 rfl rfl ?_
  have L4 : ∀ (n1 : Nat) (x4 : Int) (z5 : ov_Z) (h6 : ov_H) (I7 : ov_N F z5 h6) (fr8 : ∀ a : Int, a ≠ 103 → h6 a = h a) (q3 : 0 ≤ x4 ∧ x4 ≤ m), m - x4 < (n1 : Int) → ov_R u d ov_m255 3 [(0, ov_r 90), (1, ov_i fr), (2, ov_i tt), (3, ov_i m), (4, ov_i x4)] [] z5 h6 (P_fMo_copies_90 F z h fr tt m) := by
    intro n1
    induction n1 with
    | zero =>
      intro x4 z5 h6 I7 fr8 q3 hn9
      exact absurd hn9 (by omega)
    | succ n1 ih2 =>
      intro x4 z5 h6 I7 fr8 q3 hn9
      refine ov_blk (ls2 := [(0, ov_r 90), (1, ov_i fr), (2, ov_i tt), (3, ov_i m), (4, ov_i x4)]) (st2 := [ov_i m, ov_i x4]) (pc2 := 6) b_255_3_2 rfl rfl ?_
      refine ov_icge (tgt := 39) d_255_6 (by decide) (by omega) (by omega) (fun c10 => ?_) (fun c10 => ?_)
      · skip
        exact ov_retv (st := []) d_255_39 rfl ⟨rfl, I7, (fun a ca => (fr8 a ca))⟩
      · skip
        refine ov_blk (ls2 := [(0, ov_r 90), (1, ov_i fr), (2, ov_i tt), (3, ov_i m), (4, ov_i x4)]) (st2 := [ov_r 90]) (pc2 := 10) b_255_9_1 rfl rfl ?_
        refine ov_getf (v := ov_r 103) d_255_10 fl_Mo_102 (zb_90 I7) (zs_90 I7) (congrArg ov_r (rg_90_19 I7)) ?_
        refine ov_blk (ls2 := [(0, ov_r 90), (1, ov_i fr), (2, ov_i tt), (3, ov_i m), (4, ov_i x4)]) (st2 := [ov_r 90, ov_i ((120 * tt) + x4), ov_r 103]) (pc2 := 21) b_255_13_6 rfl rfl ?_
        refine ov_getf (v := ov_r 103) d_255_21 fl_Mo_102 (zb_90 I7) (zs_90 I7) (congrArg ov_r (rg_90_19 I7)) ?_
        refine ov_blk (ls2 := [(0, ov_r 90), (1, ov_i fr), (2, ov_i tt), (3, ov_i m), (4, ov_i x4)]) (st2 := [ov_i ((120 * fr) + x4), ov_r 103, ov_i ((120 * tt) + x4), ov_r 103]) (pc2 := 31) b_255_24_5 rfl rfl ?_
        refine ov_iald d_255_31 (zb_103 I7) (zs_103 I7) (by omega) ?_
        have g11 := g103 I7 ((120 * fr) + x4)
        refine ov_iast d_255_32 (zb_103 I7) (zs_103 I7) (by omega) ?_
        have gw := ra_103 I7 (120 * fr + x4)
        have I12 := ua_103 (k := ((120 * tt) + x4)) (x := (h6 103 ((120 * fr) + x4))) I7 (by refine ⟨?_, ?_, ?_, ?_, ?_, ?_⟩ <;> omega)
        refine ov_blk (ls2 := [(0, ov_r 90), (1, ov_i fr), (2, ov_i tt), (3, ov_i m), (4, ov_i (x4 + 1))]) (st2 := []) (pc2 := 36) b_255_33_1 rfl rfl ?_
        refine ov_goto (tgt := 3) d_255_36 (by decide) ?_
        exact ih2 (x4 + 1) _ _ I12 (fun a ca => Eq.trans (by show (ov_up h6 103 ((120 * tt) + x4) (h6 103 ((120 * fr) + x4))) a = h6 a; rw [ov_up_ne (by omega)]) (fr8 a ca)) (by show 0 ≤ (x4 + 1) ∧ (x4 + 1) ≤ m; omega) (by omega)
  exact L4 200 0 _ _ I (fun a ca => rfl) (by show 0 ≤ 0 ∧ 0 ≤ m; omega) (by omega)
abbrev P_fMo_mark_90 (F : ov_H × ov_Z) (z : ov_Z) (h : ov_H) (m : Int) (b : Int) : Option ov_V → ov_Z → ov_H → Prop := fun r0 z' h' => ∃ r : Int, r0 = some (ov_i r) ∧ ov_N F z' h' ∧ (∀ a : Int, a ≠ 90 ∧ (a < 103 ∨ 104 < a) → h' a = h a) ∧ (∀ k : Int, k ≠ 0 → k ≠ 20 → k ≠ 22 → (h' 90) k = (h 90) k) ∧ ((r = 0 ∧ (m < 0 ∨ 3 < m ∨ b = 1 ∧ (h 104 (m)) = 0) ∧ ((h' 104) = (h 104))) ∨ (r = 1 ∧ (0 ≤ m ∧ m ≤ 3 ∧ (b = 0 ∨ (h 104 (m)) = 1)) ∧ ((h' 104) = ov_rs (h 104) m 1)))
set_option maxHeartbeats 4000000 in
theorem c_fMo_mark_90 {u : ov_U} {F : ov_H × ov_Z} {z : ov_Z} {h : ov_H} (d : Nat) (hd : 3 ≤ d) (U : ov_cap u) (I : ov_N F z h) (m : Int) (b : Int) (g_m : ov_g m) (g_b : b = 0 ∨ b = 1) : ov_T u d ov_m311 [ov_r 90, ov_i m, ov_i b] z h (P_fMo_mark_90 F z h m b) := by
  refine ov_en rfl (Nat.le_of_ble_eq_true rfl) ?_
  show ov_R u d ov_m311 0 [(0, ov_r 90), (1, ov_i m), (2, ov_i b)] [] z h (P_fMo_mark_90 F z h m b)
  refine ov_blk (ls2 := [(0, ov_r 90), (1, ov_i m), (2, ov_i b)]) (st2 := [ov_i 0, ov_r 90]) (pc2 := 2) b_311_0_2 rfl rfl ?_
  refine ov_putf (x := 0) d_311_2 fl_Mo_1 (zb_90 I) (zs_90 I) rfl nk_0 rfl ?_
  have I1 := up_90_0 (x := 0) I (by omega)
  show ov_R u d ov_m311 5 [(0, ov_r 90), (1, ov_i m), (2, ov_i b)] [] z (ov_up h 90 0 0) (P_fMo_mark_90 F z h m b)
  refine ov_blk (ls2 := [(0, ov_r 90), (1, ov_i m), (2, ov_i b)]) (st2 := [ov_i 3, ov_i 0, ov_i m]) (pc2 := 8) b_311_5_3 rfl rfl ?_
  refine ov_cS (as := [ov_i m, ov_i 0, ov_i 3]) (st := []) (d2 := d - 1) d_311_8 lk_Mo_299 rfl (Nat.le_of_ble_eq_true rfl) (by omega) (c_fMo_within (d - 1) (by omega) U I1 m 0 3 (by omega) (by omega) (by omega)) ?_
  rintro _ _ _ ⟨v2, rfl, rfl, rfl, y3⟩
  rcases y3 with ⟨rfl, f4⟩ | ⟨rfl, f5⟩
  · skip
    show ov_R u d ov_m311 11 [(0, ov_r 90), (1, ov_i m), (2, ov_i b)] [ov_i 0] z (ov_up h 90 0 0) (P_fMo_mark_90 F z h m b)
    have f6 : m < (0 : Int) ∨ (3 : Int) < m := f4
    clear f4
    refine ov_ifeq (tgt := 27) d_311_11 (by decide) (by omega) (fun c7 => ?_) (fun c7 => ?_)
    · skip
      refine ov_blk (ls2 := [(0, ov_r 90), (1, ov_i m), (2, ov_i b)]) (st2 := [ov_i 0]) (pc2 := 28) b_311_27_1 rfl rfl ?_
      exact ov_retz (st := []) d_311_28 rfl (by omega) ⟨_, rfl, I1, (fun a ca => Eq.trans (by show (ov_up h 90 0 0) a = h a; rw [ov_up_ne (by omega)]) rfl), (fun k n0 n1 n2 => (Eq.trans (by show (ov_up h 90 0 0) 90 k = h 90 k; rw [ov_up_j n0]) rfl)), (Or.inl ⟨rfl, (by show m < 0 ∨ 3 < m ∨ b = 1 ∧ (h 104 (m)) = 0; omega), (show (ov_up h 90 0 0) 104 = (h 104) from (Eq.trans (show (ov_up h 90 0 0) 104 = h 104 from rfl) rfl))⟩)⟩
    · omega
  · skip
    show ov_R u d ov_m311 11 [(0, ov_r 90), (1, ov_i m), (2, ov_i b)] [ov_i 1] z (ov_up h 90 0 0) (P_fMo_mark_90 F z h m b)
    have f8 : (0 : Int) ≤ m ∧ m ≤ (3 : Int) := f5
    clear f5
    refine ov_ifeq (tgt := 27) d_311_11 (by decide) (by omega) (fun c9 => ?_) (fun c9 => ?_)
    · omega
    · skip
      refine ov_blk (ls2 := [(0, ov_r 90), (1, ov_i m), (2, ov_i b)]) (st2 := [ov_i b]) (pc2 := 15) b_311_14_1 rfl rfl ?_
      refine ov_ifeq (tgt := 29) d_311_15 (by decide) (by omega) (fun c10 => ?_) (fun c10 => ?_)
      · skip
        refine ov_blk (ls2 := [(0, ov_r 90), (1, ov_i m), (2, ov_i b)]) (st2 := [ov_r 90]) (pc2 := 30) b_311_29_1 rfl rfl ?_
        refine ov_getf (v := ov_r 104) d_311_30 fl_Mo_105 (zb_90 I1) (zs_90 I1) (congrArg ov_r (rg_90_21 I1)) ?_
        refine ov_blk (ls2 := [(0, ov_r 90), (1, ov_i m), (2, ov_i b)]) (st2 := [ov_i 1, ov_i m, ov_r 104]) (pc2 := 35) b_311_33_2 rfl rfl ?_
        refine ov_zast d_311_35 (zb_104 I1) (zs_104 I1) (by omega) (by omega) ?_
        have I11 := ua_104 (k := m) (x := 1) I1 (by omega)
        refine ov_blk (ls2 := [(0, ov_r 90), (1, ov_i m), (2, ov_i b)]) (st2 := [ov_i b, ov_r 90]) (pc2 := 38) b_311_36_2 rfl rfl ?_
        refine ov_ifeq (tgt := 47) d_311_38 (by decide) (by omega) (fun c12 => ?_) (fun c12 => ?_)
        · skip
          refine ov_blk (ls2 := [(0, ov_r 90), (1, ov_i m), (2, ov_i b)]) (st2 := [ov_i b, ov_i 0, ov_r 90]) (pc2 := 49) b_311_47_2 rfl rfl ?_
          refine ov_ifeq (tgt := 56) d_311_49 (by decide) (by omega) (fun c13 => ?_) (fun c13 => ?_)
          · skip
            refine ov_blk (ls2 := [(0, ov_r 90), (1, ov_i m), (2, ov_i b)]) (st2 := [ov_i 120, ov_i (1 + m), ov_i 0, ov_r 90]) (pc2 := 61) b_311_56_4 rfl rfl ?_
            refine ov_cV (as := [ov_i 0, ov_i (1 + m), ov_i 120]) (st := []) (d2 := d - 1) d_311_61 lk_Mo_325 rfl (Nat.le_of_ble_eq_true rfl) (c := 1) (zb_90 I11) (zs_90 I11) ⟨by decide, rfl⟩ (by omega) (c_fMo_copies_90 (d - 1) (by omega) U I11 0 (1 + m) 120 (by omega) (by omega) (by omega) (by show 0 ≤ (0 : Int) ∧ (0 : Int) ≤ 20; omega) (by show 0 ≤ (1 + m) ∧ (1 + m) ≤ 20; omega) (by show 0 ≤ (120 : Int) ∧ (120 : Int) ≤ 120; omega)) ?_
            rintro _ z14 h15 ⟨rfl, I16, y17⟩
            have R19 : h15 104 = (ov_rs (h 104) m 1) := Eq.trans (y17 104 (by decide)) (Eq.trans (ov_up_row (ov_up h 90 0 0) 104 m 1) (congrArg (fun f => ov_rs f m 1) (Eq.trans (show (ov_up h 90 0 0) 104 = h 104 from rfl) rfl)))
            have fr20 : ∀ a : Int, a ≠ 90 ∧ (a < 103 ∨ 104 < a) → h15 a = h a := fun a ca => Eq.trans (y17 a (by omega)) (Eq.trans (by show (ov_up (ov_up h 90 0 0) 104 m 1) a = h a; rw [ov_up_ne (by omega), ov_up_ne (by omega)]) rfl)
            have rk21 : ∀ k : Int, k ≠ 0 → k ≠ 20 → k ≠ 22 → h15 90 k = h 90 k := fun k n0 n1 n2 => Eq.trans (congrFun (y17 90 (by decide)) k) (Eq.trans (by show (ov_up (ov_up h 90 0 0) 104 m 1) 90 k = h 90 k; rw [ov_up_ne (by decide), ov_up_j n0]) rfl)
            have g22 : h15 90 0 = 0 := congrFun (y17 90 (by decide)) 0
            have g23 : h15 90 20 = (h 90 20) := congrFun (y17 90 (by decide)) 20
            have g24 : h15 90 22 = (h 90 22) := congrFun (y17 90 (by decide)) 22
            show ov_R u d ov_m311 64 [(0, ov_r 90), (1, ov_i m), (2, ov_i b)] [] z14 h15 (P_fMo_mark_90 F z h m b)
            refine ov_blk (ls2 := [(0, ov_r 90), (1, ov_i m), (2, ov_i b)]) (st2 := [ov_i b, ov_r 90]) (pc2 := 66) b_311_64_2 rfl rfl ?_
            refine ov_ifeq (tgt := 73) d_311_66 (by decide) (by omega) (fun c25 => ?_) (fun c25 => ?_)
            · skip
              refine ov_blk (ls2 := [(0, ov_r 90), (1, ov_i m), (2, ov_i b)]) (st2 := [ov_r 90, ov_r 90]) (pc2 := 74) b_311_73_1 rfl rfl ?_
              refine ov_getf (v := ov_i (h15 90 20)) d_311_74 fl_Mo_319 (zb_90 I16) (zs_90 I16) rfl ?_
              have g26 := rg_90_20 I16
              refine ov_putf (x := (h15 90 20)) d_311_77 fl_Mo_319 (zb_90 I16) (zs_90 I16) rfl nk_0 rfl ?_
              have I27 := up_90_20 (x := (h15 90 20)) I16 (by omega)
              show ov_R u d ov_m311 80 [(0, ov_r 90), (1, ov_i m), (2, ov_i b)] [] z14 (ov_up h15 90 20 (h15 90 20)) (P_fMo_mark_90 F z h m b)
              refine ov_blk (ls2 := [(0, ov_r 90), (1, ov_i m), (2, ov_i b)]) (st2 := [ov_r 90, ov_r 90]) (pc2 := 82) b_311_80_2 rfl rfl ?_
              refine ov_getf (v := ov_i (h15 90 22)) d_311_82 fl_Mo_322 (zb_90 I27) (zs_90 I27) rfl ?_
              have g28 := rg_90_22 I16
              refine ov_blk (ls2 := [(0, ov_r 90), (1, ov_i m), (2, ov_i b)]) (st2 := [ov_i ((h15 90 22) + 1), ov_r 90]) (pc2 := 87) b_311_85_2 rfl rfl ?_
              refine ov_nrm ?_
              have g29 := ov_wg ((h15 90 22) + 1)
              refine ov_putf (x := (ov_w ((h15 90 22) + 1))) d_311_87 fl_Mo_322 (zb_90 I27) (zs_90 I27) rfl nk_0 rfl ?_
              have I30 := up_90_22 (x := (ov_w ((h15 90 22) + 1))) I27 (by omega)
              show ov_R u d ov_m311 90 [(0, ov_r 90), (1, ov_i m), (2, ov_i b)] [] z14 (ov_up (ov_up h15 90 20 (h15 90 20)) 90 22 (ov_w ((h15 90 22) + 1))) (P_fMo_mark_90 F z h m b)
              refine ov_blk (ls2 := [(0, ov_r 90), (1, ov_i m), (2, ov_i b)]) (st2 := [ov_i 1]) (pc2 := 91) b_311_90_1 rfl rfl ?_
              exact ov_retz (st := []) d_311_91 rfl (by omega) ⟨_, rfl, I30, (fun a ca => Eq.trans (by show (ov_up (ov_up h15 90 20 (h15 90 20)) 90 22 (ov_w ((h15 90 22) + 1))) a = h15 a; rw [ov_up_ne (by omega), ov_up_ne (by omega)]) (fr20 a ca)), (fun k n0 n1 n2 => (Eq.trans (by show (ov_up (ov_up h15 90 20 (h15 90 20)) 90 22 (ov_w ((h15 90 22) + 1))) 90 k = h15 90 k; rw [ov_up_j n2, ov_up_j n1]) (rk21 k n0 n1 n2))), (Or.inr ⟨rfl, (by show 0 ≤ m ∧ m ≤ 3 ∧ (b = 0 ∨ (h 104 (m)) = 1); omega), (show (ov_up (ov_up h15 90 20 (h15 90 20)) 90 22 (ov_w ((h15 90 22) + 1))) 104 = (ov_rs (h 104) m 1) from (Eq.trans (show (ov_up (ov_up h15 90 20 (h15 90 20)) 90 22 (ov_w ((h15 90 22) + 1))) 104 = (ov_up h15 90 20 (h15 90 20)) 104 from rfl) (Eq.trans (show (ov_up h15 90 20 (h15 90 20)) 104 = h15 104 from rfl) R19)))⟩)⟩
            · omega
          · omega
        · omega
      · skip
        refine ov_blk (ls2 := [(0, ov_r 90), (1, ov_i m), (2, ov_i b)]) (st2 := [ov_r 90]) (pc2 := 19) b_311_18_1 rfl rfl ?_
        refine ov_getf (v := ov_r 104) d_311_19 fl_Mo_105 (zb_90 I1) (zs_90 I1) (congrArg ov_r (rg_90_21 I1)) ?_
        refine ov_blk (ls2 := [(0, ov_r 90), (1, ov_i m), (2, ov_i b)]) (st2 := [ov_i m, ov_r 104]) (pc2 := 23) b_311_22_1 rfl rfl ?_
        refine ov_zald d_311_23 (zb_104 I1) (zs_104 I1) (by omega) ?_
        have e31 : (ov_up h 90 0 0) 104 m = (h 104 m) := congrFun (show (ov_up h 90 0 0) 104 = h 104 from rfl) m
        have g32 := ra_104 I1 m
        rw [e31] at g32
        show ov_R u d ov_m311 24 [(0, ov_r 90), (1, ov_i m), (2, ov_i b)] [ov_i ((ov_up h 90 0 0) 104 m)] z (ov_up h 90 0 0) (P_fMo_mark_90 F z h m b)
        rw [e31]
        show ov_R u d ov_m311 24 [(0, ov_r 90), (1, ov_i m), (2, ov_i b)] [ov_i (h 104 m)] z (ov_up h 90 0 0) (P_fMo_mark_90 F z h m b)
        refine ov_ifne (tgt := 29) d_311_24 (by decide) (by omega) (fun c33 => ?_) (fun c33 => ?_)
        · skip
          refine ov_blk (ls2 := [(0, ov_r 90), (1, ov_i m), (2, ov_i b)]) (st2 := [ov_r 90]) (pc2 := 30) b_311_29_1 rfl rfl ?_
          refine ov_getf (v := ov_r 104) d_311_30 fl_Mo_105 (zb_90 I1) (zs_90 I1) (congrArg ov_r (rg_90_21 I1)) ?_
          refine ov_blk (ls2 := [(0, ov_r 90), (1, ov_i m), (2, ov_i b)]) (st2 := [ov_i 1, ov_i m, ov_r 104]) (pc2 := 35) b_311_33_2 rfl rfl ?_
          refine ov_zast d_311_35 (zb_104 I1) (zs_104 I1) (by omega) (by omega) ?_
          have I34 := ua_104 (k := m) (x := 1) I1 (by omega)
          refine ov_blk (ls2 := [(0, ov_r 90), (1, ov_i m), (2, ov_i b)]) (st2 := [ov_i b, ov_r 90]) (pc2 := 38) b_311_36_2 rfl rfl ?_
          refine ov_ifeq (tgt := 47) d_311_38 (by decide) (by omega) (fun c35 => ?_) (fun c35 => ?_)
          · omega
          · skip
            refine ov_blk (ls2 := [(0, ov_r 90), (1, ov_i m), (2, ov_i b)]) (st2 := [ov_i (1 + m), ov_r 90]) (pc2 := 44) b_311_41_3 rfl rfl ?_
            refine ov_goto (tgt := 48) d_311_44 (by decide) ?_
            refine ov_blk (ls2 := [(0, ov_r 90), (1, ov_i m), (2, ov_i b)]) (st2 := [ov_i b, ov_i (1 + m), ov_r 90]) (pc2 := 49) b_311_48_1 rfl rfl ?_
            refine ov_ifeq (tgt := 56) d_311_49 (by decide) (by omega) (fun c36 => ?_) (fun c36 => ?_)
            · omega
            · skip
              refine ov_blk (ls2 := [(0, ov_r 90), (1, ov_i m), (2, ov_i b)]) (st2 := [ov_i 0, ov_i (1 + m), ov_r 90]) (pc2 := 53) b_311_52_1 rfl rfl ?_
              refine ov_goto (tgt := 59) d_311_53 (by decide) ?_
              refine ov_blk (ls2 := [(0, ov_r 90), (1, ov_i m), (2, ov_i b)]) (st2 := [ov_i 120, ov_i 0, ov_i (1 + m), ov_r 90]) (pc2 := 61) b_311_59_1 rfl rfl ?_
              refine ov_cV (as := [ov_i (1 + m), ov_i 0, ov_i 120]) (st := []) (d2 := d - 1) d_311_61 lk_Mo_325 rfl (Nat.le_of_ble_eq_true rfl) (c := 1) (zb_90 I34) (zs_90 I34) ⟨by decide, rfl⟩ (by omega) (c_fMo_copies_90 (d - 1) (by omega) U I34 (1 + m) 0 120 (by omega) (by omega) (by omega) (by show 0 ≤ (1 + m) ∧ (1 + m) ≤ 20; omega) (by show 0 ≤ (0 : Int) ∧ (0 : Int) ≤ 20; omega) (by show 0 ≤ (120 : Int) ∧ (120 : Int) ≤ 120; omega)) ?_
              rintro _ z37 h38 ⟨rfl, I39, y40⟩
              have R42 : h38 104 = (ov_rs (h 104) m 1) := Eq.trans (y40 104 (by decide)) (Eq.trans (ov_up_row (ov_up h 90 0 0) 104 m 1) (congrArg (fun f => ov_rs f m 1) (Eq.trans (show (ov_up h 90 0 0) 104 = h 104 from rfl) rfl)))
              have fr43 : ∀ a : Int, a ≠ 90 ∧ (a < 103 ∨ 104 < a) → h38 a = h a := fun a ca => Eq.trans (y40 a (by omega)) (Eq.trans (by show (ov_up (ov_up h 90 0 0) 104 m 1) a = h a; rw [ov_up_ne (by omega), ov_up_ne (by omega)]) rfl)
              have rk44 : ∀ k : Int, k ≠ 0 → k ≠ 20 → k ≠ 22 → h38 90 k = h 90 k := fun k n0 n1 n2 => Eq.trans (congrFun (y40 90 (by decide)) k) (Eq.trans (by show (ov_up (ov_up h 90 0 0) 104 m 1) 90 k = h 90 k; rw [ov_up_ne (by decide), ov_up_j n0]) rfl)
              have g45 : h38 90 0 = 0 := congrFun (y40 90 (by decide)) 0
              have g46 : h38 90 20 = (h 90 20) := congrFun (y40 90 (by decide)) 20
              have g47 : h38 90 22 = (h 90 22) := congrFun (y40 90 (by decide)) 22
              show ov_R u d ov_m311 64 [(0, ov_r 90), (1, ov_i m), (2, ov_i b)] [] z37 h38 (P_fMo_mark_90 F z h m b)
              refine ov_blk (ls2 := [(0, ov_r 90), (1, ov_i m), (2, ov_i b)]) (st2 := [ov_i b, ov_r 90]) (pc2 := 66) b_311_64_2 rfl rfl ?_
              refine ov_ifeq (tgt := 73) d_311_66 (by decide) (by omega) (fun c48 => ?_) (fun c48 => ?_)
              · omega
              · skip
                refine ov_blk (ls2 := [(0, ov_r 90), (1, ov_i m), (2, ov_i b)]) (st2 := [ov_i 0, ov_r 90]) (pc2 := 70) b_311_69_1 rfl rfl ?_
                refine ov_goto (tgt := 77) d_311_70 (by decide) ?_
                refine ov_putf (x := 0) d_311_77 fl_Mo_319 (zb_90 I39) (zs_90 I39) rfl nk_0 rfl ?_
                have I49 := up_90_20 (x := 0) I39 (by omega)
                show ov_R u d ov_m311 80 [(0, ov_r 90), (1, ov_i m), (2, ov_i b)] [] z37 (ov_up h38 90 20 0) (P_fMo_mark_90 F z h m b)
                refine ov_blk (ls2 := [(0, ov_r 90), (1, ov_i m), (2, ov_i b)]) (st2 := [ov_r 90, ov_r 90]) (pc2 := 82) b_311_80_2 rfl rfl ?_
                refine ov_getf (v := ov_i (h38 90 22)) d_311_82 fl_Mo_322 (zb_90 I49) (zs_90 I49) rfl ?_
                have g50 := rg_90_22 I39
                refine ov_blk (ls2 := [(0, ov_r 90), (1, ov_i m), (2, ov_i b)]) (st2 := [ov_i ((h38 90 22) + 1), ov_r 90]) (pc2 := 87) b_311_85_2 rfl rfl ?_
                refine ov_nrm ?_
                have g51 := ov_wg ((h38 90 22) + 1)
                refine ov_putf (x := (ov_w ((h38 90 22) + 1))) d_311_87 fl_Mo_322 (zb_90 I49) (zs_90 I49) rfl nk_0 rfl ?_
                have I52 := up_90_22 (x := (ov_w ((h38 90 22) + 1))) I49 (by omega)
                show ov_R u d ov_m311 90 [(0, ov_r 90), (1, ov_i m), (2, ov_i b)] [] z37 (ov_up (ov_up h38 90 20 0) 90 22 (ov_w ((h38 90 22) + 1))) (P_fMo_mark_90 F z h m b)
                refine ov_blk (ls2 := [(0, ov_r 90), (1, ov_i m), (2, ov_i b)]) (st2 := [ov_i 1]) (pc2 := 91) b_311_90_1 rfl rfl ?_
                exact ov_retz (st := []) d_311_91 rfl (by omega) ⟨_, rfl, I52, (fun a ca => Eq.trans (by show (ov_up (ov_up h38 90 20 0) 90 22 (ov_w ((h38 90 22) + 1))) a = h38 a; rw [ov_up_ne (by omega), ov_up_ne (by omega)]) (fr43 a ca)), (fun k n0 n1 n2 => (Eq.trans (by show (ov_up (ov_up h38 90 20 0) 90 22 (ov_w ((h38 90 22) + 1))) 90 k = h38 90 k; rw [ov_up_j n2, ov_up_j n1]) (rk44 k n0 n1 n2))), (Or.inr ⟨rfl, (by show 0 ≤ m ∧ m ≤ 3 ∧ (b = 0 ∨ (h 104 (m)) = 1); omega), (show (ov_up (ov_up h38 90 20 0) 90 22 (ov_w ((h38 90 22) + 1))) 104 = (ov_rs (h 104) m 1) from (Eq.trans (show (ov_up (ov_up h38 90 20 0) 90 22 (ov_w ((h38 90 22) + 1))) 104 = (ov_up h38 90 20 0) 104 from rfl) (Eq.trans (show (ov_up h38 90 20 0) 104 = h38 104 from rfl) R42)))⟩)⟩
        · skip
          refine ov_blk (ls2 := [(0, ov_r 90), (1, ov_i m), (2, ov_i b)]) (st2 := [ov_i 0]) (pc2 := 28) b_311_27_1 rfl rfl ?_
          exact ov_retz (st := []) d_311_28 rfl (by omega) ⟨_, rfl, I1, (fun a ca => Eq.trans (by show (ov_up h 90 0 0) a = h a; rw [ov_up_ne (by omega)]) rfl), (fun k n0 n1 n2 => (Eq.trans (by show (ov_up h 90 0 0) 90 k = h 90 k; rw [ov_up_j n0]) rfl)), (Or.inl ⟨rfl, (by show m < 0 ∨ 3 < m ∨ b = 1 ∧ (h 104 (m)) = 0; omega), (show (ov_up h 90 0 0) 104 = (h 104) from (Eq.trans (show (ov_up h 90 0 0) 104 = h 104 from rfl) rfl))⟩)⟩
set_option maxHeartbeats 4000000 in
theorem c_Mo_town_90_m {u : ov_U} {F : ov_H × ov_Z} (t : Int → Int) (m f0 : Int) (hf : ∀ (f : Int) (B : Int → Int), pt_ET t m f B → f = f0) {z : ov_Z} {h : ov_H} (et : h 91 = t) (em : h 90 2 = m) (wd : pt_WD (h 95)) (d : Nat) (hd : 60 ≤ d) (U : ov_cap u) (I : ov_N F z h) (p0 : 0 ≤ ov_bd F ∧ ov_bd F ≤ 800000000) (p1 : 0 ≤ (h 90 22) ∧ (h 90 22) ≤ 2000000000) : ov_T u d ov_m205 [ov_r 90] z h (fun r0 z' h' => ∃ r : Int, r0 = some (ov_i r) ∧ (ov_N F z' h' ∧ ((h' 90 25) = (h 90 25) ∧ (h' 90 26) = (h 90 26) ∧ (h' 90 28) = (h 90 28) ∧ (h' 90 29) = (h 90 29) ∧ (h' 90 30) = (h 90 30) ∧ (h' 90 34) = (h 90 34) ∧ 0 ≤ r ∧ r ≤ 16005 ∧ (h' 90 2) = 0) ∧ h' 91 = h 91 ∧ h' 95 = h 95 ∧ h' 105 = h 105 ∧ h' 106 = h 106 ∧ h' 109 = h 109 ∧ h' 114 = h 114 ∧ ((ov_MK (h 96) (h 97) (h 98) (h' 96) (h' 97) (h' 98) ∧ (h' 100) = (h 100) ∧ (h' 103) = (h 103) ∧ (h' 90 22) = (h 90 22)) ∨ (ov_WT (h' 96) ∧ ov_CD (h' 96) (h' 97) (h' 98) ∧ (h' 100 0) = 0 ∧ (h' 90 22) = (h 90 22) + 1))) ∧ (r = f0 ∧ (r = 0 ∧ (∀ j : Int, 0 ≤ j → j < 4 → h' 104 j = 0) ∨ 1 ≤ r ∧ ∀ j : Int, 0 ≤ j → j < 4 → h' 104 j = h 104 j))) := by
  have gm := rg_90_2 I
  refine ov_T_rx (X := fun r z' h' => r = f0 ∧ (r = 0 ∧ (∀ j : Int, 0 ≤ j → j < 4 → h' 104 j = 0) ∨ 1 ≤ r ∧ ∀ j : Int, 0 ≤ j → j < 4 → h' 104 j = h 104 j)) (Q1 := fun r z' h' => ov_N F z' h' ∧ ((h' 90 25) = (h 90 25) ∧ (h' 90 26) = (h 90 26) ∧ (h' 90 28) = (h 90 28) ∧ (h' 90 29) = (h 90 29) ∧ (h' 90 30) = (h 90 30) ∧ (h' 90 34) = (h 90 34) ∧ 0 ≤ r ∧ r ≤ 16005 ∧ (h' 90 2) = 0) ∧ h' 91 = h 91 ∧ h' 95 = h 95 ∧ h' 105 = h 105 ∧ h' 106 = h 106 ∧ h' 109 = h 109 ∧ h' 114 = h 114 ∧ ((ov_MK (h 96) (h 97) (h 98) (h' 96) (h' 97) (h' 98) ∧ (h' 100) = (h 100) ∧ (h' 103) = (h 103) ∧ (h' 90 22) = (h 90 22)) ∨ (ov_WT (h' 96) ∧ ov_CD (h' 96) (h' 97) (h' 98) ∧ (h' 100 0) = 0 ∧ (h' 90 22) = (h 90 22) + 1))) (c_Mo_town_90 d hd U I p0 p1) (c_fMo_town_90 t m d (by omega) U I em (by omega) (by omega) et wd) (fun r z' h' r2 z2 h2 H a1 a2 er R1 R2 => ?_)
  have f := a1.2.1
  have N1 := a1.1
  obtain ⟨N2, -, -, cs⟩ := a2
  have cel : ∀ j : Int, 0 ≤ j → j < 4 → h' 104 j = h2 104 j := fun j j0 j1 => by
    have g1 := ra_104 N1 j
    have g2 := ra_104 N2 j
    exact ov_el_z (ov_sm_a R1 R2 (by decide) (zb_104 N1).2 (zs_104 N1) (zs_104 N2) (by decide) j0 (by omega)) (by omega) (by omega)
  rcases cs with ⟨B, ar, tw, mk⟩ | ⟨B, ar, tw, mk⟩
  · have e := ov_i32 er (by omega) (by omega)
    have e2 := hf r2 B tw
    exact ⟨by omega, Or.inr ⟨by omega, fun j j0 j1 => by rw [cel j j0 j1, mk]⟩⟩
  · have e := ov_i32 er (by omega) (by omega)
    have e2 := hf r2 B tw
    exact ⟨by omega, Or.inl ⟨by omega, fun j j0 j1 => by rw [cel j j0 j1]; exact mk j j0 j1⟩⟩
set_option maxHeartbeats 4000000 in
theorem c_Mo_mark_90_m {u : ov_U} {F : ov_H × ov_Z} {z : ov_Z} {h : ov_H} (d : Nat) (hd : 3 ≤ d) (U : ov_cap u) (I : ov_N F z h) (m b : Int) (g_m : ov_g m) (g_b : b = 0 ∨ b = 1) (p0 : 0 ≤ (h 90 22) ∧ (h 90 22) ≤ 2000000000) : ov_T u d ov_m311 [ov_r 90, ov_i m, ov_i b] z h (fun r0 z' h' => ∃ r : Int, r0 = some (ov_i r) ∧ (ov_N F z' h' ∧ ((h' 90 2) = (h 90 2) ∧ (h' 90 7) = (h 90 7) ∧ (h' 90 8) = (h 90 8) ∧ (h' 90 13) = (h 90 13) ∧ (h' 90 25) = (h 90 25) ∧ (h' 90 26) = (h 90 26) ∧ (h' 90 28) = (h 90 28) ∧ (h' 90 29) = (h 90 29) ∧ (h' 90 30) = (h 90 30) ∧ (h' 90 34) = (h 90 34) ∧ (r = 0 ∨ r = 1) ∧ (h 90 22) ≤ (h' 90 22) ∧ (h' 90 22) ≤ (h 90 22) + 1) ∧ h' 91 = h 91 ∧ h' 92 = h 92 ∧ h' 93 = h 93 ∧ h' 94 = h 94 ∧ h' 95 = h 95 ∧ h' 96 = h 96 ∧ h' 97 = h 97 ∧ h' 98 = h 98 ∧ h' 99 = h 99 ∧ h' 100 = h 100 ∧ h' 105 = h 105 ∧ h' 106 = h 106 ∧ h' 109 = h 109 ∧ h' 114 = h 114 ∧ (((h' 90 22) = (h 90 22) ∧ (h' 103) = (h 103)) ∨ (h' 90 22) = (h 90 22) + 1)) ∧ (r = mk_ans (h 104 0) (h 104 1) (h 104 2) (h 104 3) m b ∧ ∀ j : Int, 0 ≤ j → j < 4 → h' 104 j = mk_row r m j (h 104 j))) := by
  refine ov_T_rx (X := fun r z' h' => r = mk_ans (h 104 0) (h 104 1) (h 104 2) (h 104 3) m b ∧ ∀ j : Int, 0 ≤ j → j < 4 → h' 104 j = mk_row r m j (h 104 j)) (Q1 := fun r z' h' => ov_N F z' h' ∧ ((h' 90 2) = (h 90 2) ∧ (h' 90 7) = (h 90 7) ∧ (h' 90 8) = (h 90 8) ∧ (h' 90 13) = (h 90 13) ∧ (h' 90 25) = (h 90 25) ∧ (h' 90 26) = (h 90 26) ∧ (h' 90 28) = (h 90 28) ∧ (h' 90 29) = (h 90 29) ∧ (h' 90 30) = (h 90 30) ∧ (h' 90 34) = (h 90 34) ∧ (r = 0 ∨ r = 1) ∧ (h 90 22) ≤ (h' 90 22) ∧ (h' 90 22) ≤ (h 90 22) + 1) ∧ h' 91 = h 91 ∧ h' 92 = h 92 ∧ h' 93 = h 93 ∧ h' 94 = h 94 ∧ h' 95 = h 95 ∧ h' 96 = h 96 ∧ h' 97 = h 97 ∧ h' 98 = h 98 ∧ h' 99 = h 99 ∧ h' 100 = h 100 ∧ h' 105 = h 105 ∧ h' 106 = h 106 ∧ h' 109 = h 109 ∧ h' 114 = h 114 ∧ (((h' 90 22) = (h 90 22) ∧ (h' 103) = (h 103)) ∨ (h' 90 22) = (h 90 22) + 1)) (c_Mo_mark_90 d (by omega) U I m b g_m g_b p0) (c_fMo_mark_90 d (by omega) U I m b g_m g_b) (fun r z' h' r2 z2 h2 H a1 a2 er R1 R2 => ?_)
  have f := a1.2.1
  have N1 := a1.1
  obtain ⟨N2, -, -, cs⟩ := a2
  have cel : ∀ j : Int, 0 ≤ j → j < 4 → h' 104 j = h2 104 j := fun j j0 j1 => by
    have g1 := ra_104 N1 j
    have g2 := ra_104 N2 j
    exact ov_el_z (ov_sm_a R1 R2 (by decide) (zb_104 N1).2 (zs_104 N1) (zs_104 N2) (by decide) j0 (by omega)) (by omega) (by omega)
  rcases cs with ⟨e1, ar, mk⟩ | ⟨e1, ar, mk⟩
  · have e : r = 0 := by rw [e1] at er; exact ov_i32 er (by omega) (by omega)
    refine ⟨?_, fun j j0 j1 => by rw [e, mk_row_0, cel j j0 j1, mk]⟩
    rw [e]
    unfold mk_ans
    rw [if_neg (fun q => ?_)]
    have y := mk_at_e (f := h 104) (m := m) ⟨q.1, q.2.1⟩
    have q2 := q.2.2
    omega
  · have e : r = 1 := by rw [e1] at er; exact ov_i32 er (by omega) (by omega)
    refine ⟨?_, fun j j0 j1 => by rw [e, cel j j0 j1, mk]; exact mk_row_u⟩
    have y := mk_at_e (f := h 104) (m := m) ⟨ar.1, ar.2.1⟩
    rw [e]
    unfold mk_ans
    rw [if_pos ⟨ar.1, ar.2.1, by omega⟩]
theorem ov_up4 {h : ov_H} {a k x j : Int} : (k = j → ov_up h a k x a j = x) ∧ (¬ k = j → ov_up h a k x a j = h a j) := by
  rw [ov_up_row]
  exact ⟨fun e => by rw [e, ov_rs_eq], fun e => ov_rs_ne (fun q => e q.symm)⟩

abbrev P_OF_forgetMarks_0_m (F : ov_H) (z : ov_Z) (h : ov_H)  : Option ov_V → ov_Z → ov_H → Prop := fun r0 z' h' => r0 = none ∧ ov_I F z' h' ∧ ((h' 35 0) = 0 ∧ (h' 35 1) = 0 ∧ (h' 35 2) = 0 ∧ (h' 35 3) = 0 ∧ (h' 36 7) = (h 36 7) ∧ (h' 1 1) = (h 1 1) ∧ (h' 90 2) = (h 90 2) ∧ (h' 0 10) = (h 0 10) ∧ (h' 0 11) = (h 0 11) ∧ (h' 0 12) = (h 0 12) ∧ (h' 0 13) = (h 0 13) ∧ (h' 3 1) = (h 3 1) ∧ (h' 36 8) = (h 36 8) ∧ (h' 46 3) = (h 46 3) ∧ (h' 46 4) = (h 46 4) ∧ (h' 49 4) = (h 49 4) ∧ (h' 49 5) = (h 49 5) ∧ (h' 64 0) = (h 64 0) ∧ (h' 76 0) = (h 76 0))
set_option maxHeartbeats 4000000 in
theorem c_OF_forgetMarks_0_m {u : ov_U} {F : ov_H} {z : ov_Z} {h : ov_H} (d : Nat) (hd : 0 ≤ d) (U : ov_cap u) (I : ov_I F z h) (hw : ov_kw 34359738368 F) : ov_T u d ov_m83 [ov_r 0] z h (P_OF_forgetMarks_0_m F z h) := by
  refine ov_en rfl (Nat.le_of_ble_eq_true rfl) ?_
  show ov_R u d ov_m83 0 [(0, ov_r 0)] [] z h (P_OF_forgetMarks_0_m F z h)
  refine ov_blk (ls2 := [(0, ov_r 0), (1, ov_i 0)]) (st2 := []) (pc2 := 2) b_83_0_2 rfl rfl ?_
  have L4 : ∀ (n1 : Nat) (x1 : Int) (z5 : ov_Z) (h6 : ov_H) (I7 : ov_I F z5 h6) (q3 : 0 ≤ x1 ∧ x1 ≤ 4 ∧ (0 < x1 → (h6 35 0) = 0) ∧ (1 < x1 → (h6 35 1) = 0) ∧ (2 < x1 → (h6 35 2) = 0) ∧ (3 < x1 → (h6 35 3) = 0) ∧ (h6 36 7) = (h 36 7) ∧ (h6 1 1) = (h 1 1) ∧ (h6 90 2) = (h 90 2) ∧ (h6 0 10) = (h 0 10) ∧ (h6 0 11) = (h 0 11) ∧ (h6 0 12) = (h 0 12) ∧ (h6 0 13) = (h 0 13) ∧ (h6 3 1) = (h 3 1) ∧ (h6 36 8) = (h 36 8) ∧ (h6 46 3) = (h 46 3) ∧ (h6 46 4) = (h 46 4) ∧ (h6 49 4) = (h 49 4) ∧ (h6 49 5) = (h 49 5) ∧ (h6 64 0) = (h 64 0) ∧ (h6 76 0) = (h 76 0)), 4 - x1 < (n1 : Int) → ov_R u d ov_m83 2 [(0, ov_r 0), (1, ov_i x1)] [] z5 h6 (P_OF_forgetMarks_0_m F z h) := by
    intro n1
    induction n1 with
    | zero =>
      intro x1 z5 h6 I7 q3 hn8
      exact absurd hn8 (by omega)
    | succ n1 ih2 =>
      intro x1 z5 h6 I7 q3 hn8
      refine ov_blk (ls2 := [(0, ov_r 0), (1, ov_i x1)]) (st2 := [ov_r 0, ov_i x1]) (pc2 := 4) b_83_2_2 rfl rfl ?_
      refine ov_getf (v := ov_r 35) d_83_4 fl_OF_43 (zb_0 I7) (zs_0 I7) (congrArg ov_r (rg_0_5 I7)) ?_
      refine ov_alen d_83_7 (zb_35 I7) (zs_35 I7) (by decide) ?_
      show ov_R u d ov_m83 8 [(0, ov_r 0), (1, ov_i x1)] [ov_i 4, ov_i x1] z5 h6 (P_OF_forgetMarks_0_m F z h)
      refine ov_icge (tgt := 24) d_83_8 (by decide) (by omega) (by omega) (fun c9 => ?_) (fun c9 => ?_)
      · skip
        exact ov_retv (st := []) d_83_24 rfl ⟨rfl, I7, (by show (h6 35 0) = 0 ∧ (h6 35 1) = 0 ∧ (h6 35 2) = 0 ∧ (h6 35 3) = 0 ∧ (h6 36 7) = (h 36 7) ∧ (h6 1 1) = (h 1 1) ∧ (h6 90 2) = (h 90 2) ∧ (h6 0 10) = (h 0 10) ∧ (h6 0 11) = (h 0 11) ∧ (h6 0 12) = (h 0 12) ∧ (h6 0 13) = (h 0 13) ∧ (h6 3 1) = (h 3 1) ∧ (h6 36 8) = (h 36 8) ∧ (h6 46 3) = (h 46 3) ∧ (h6 46 4) = (h 46 4) ∧ (h6 49 4) = (h 49 4) ∧ (h6 49 5) = (h 49 5) ∧ (h6 64 0) = (h 64 0) ∧ (h6 76 0) = (h 76 0); omega)⟩
      · skip
        refine ov_blk (ls2 := [(0, ov_r 0), (1, ov_i x1)]) (st2 := [ov_r 0]) (pc2 := 12) b_83_11_1 rfl rfl ?_
        refine ov_getf (v := ov_r 35) d_83_12 fl_OF_43 (zb_0 I7) (zs_0 I7) (congrArg ov_r (rg_0_5 I7)) ?_
        refine ov_blk (ls2 := [(0, ov_r 0), (1, ov_i x1)]) (st2 := [ov_i 0, ov_i x1, ov_r 35]) (pc2 := 17) b_83_15_2 rfl rfl ?_
        refine ov_zast d_83_17 (zb_35 I7) (zs_35 I7) (by omega) (by omega) ?_
        have I10 := ua_35 (k := x1) (x := 0) I7 (by omega) (hw 35 (by decide +kernel))
        have u0 := ov_up4 (h := h6) (a := 35) (k := x1) (x := 0) (j := 0)
        have u1 := ov_up4 (h := h6) (a := 35) (k := x1) (x := 0) (j := 1)
        have u2 := ov_up4 (h := h6) (a := 35) (k := x1) (x := 0) (j := 2)
        have u3 := ov_up4 (h := h6) (a := 35) (k := x1) (x := 0) (j := 3)
        refine ov_blk (ls2 := [(0, ov_r 0), (1, ov_i (x1 + 1))]) (st2 := []) (pc2 := 21) b_83_18_1 rfl rfl ?_
        refine ov_goto (tgt := 2) d_83_21 (by decide) ?_
        exact ih2 (x1 + 1) _ _ I10 (by show 0 ≤ (x1 + 1) ∧ (x1 + 1) ≤ 4 ∧ (0 < (x1 + 1) → ((ov_up h6 35 x1 0) 35 0) = 0) ∧ (1 < (x1 + 1) → ((ov_up h6 35 x1 0) 35 1) = 0) ∧ (2 < (x1 + 1) → ((ov_up h6 35 x1 0) 35 2) = 0) ∧ (3 < (x1 + 1) → ((ov_up h6 35 x1 0) 35 3) = 0) ∧ (h6 36 7) = (h 36 7) ∧ (h6 1 1) = (h 1 1) ∧ (h6 90 2) = (h 90 2) ∧ (h6 0 10) = (h 0 10) ∧ (h6 0 11) = (h 0 11) ∧ (h6 0 12) = (h 0 12) ∧ (h6 0 13) = (h 0 13) ∧ (h6 3 1) = (h 3 1) ∧ (h6 36 8) = (h 36 8) ∧ (h6 46 3) = (h 46 3) ∧ (h6 46 4) = (h 46 4) ∧ (h6 49 4) = (h 49 4) ∧ (h6 49 5) = (h 49 5) ∧ (h6 64 0) = (h 64 0) ∧ (h6 76 0) = (h 76 0); omega) (by omega)
  exact L4 5 0 _ _ I (by show 0 ≤ 0 ∧ 0 ≤ 4 ∧ (0 < 0 → (h 35 0) = 0) ∧ (1 < 0 → (h 35 1) = 0) ∧ (2 < 0 → (h 35 2) = 0) ∧ (3 < 0 → (h 35 3) = 0) ∧ (h 36 7) = (h 36 7) ∧ (h 1 1) = (h 1 1) ∧ (h 90 2) = (h 90 2) ∧ (h 0 10) = (h 0 10) ∧ (h 0 11) = (h 0 11) ∧ (h 0 12) = (h 0 12) ∧ (h 0 13) = (h 0 13) ∧ (h 3 1) = (h 3 1) ∧ (h 36 8) = (h 36 8) ∧ (h 46 3) = (h 46 3) ∧ (h 46 4) = (h 46 4) ∧ (h 49 4) = (h 49 4) ∧ (h 49 5) = (h 49 5) ∧ (h 64 0) = (h 64 0) ∧ (h 76 0) = (h 76 0); omega) (by omega)

abbrev P_OF_town_0_m (f0 : Int) (F : ov_H) (z : ov_Z) (h : ov_H)  : Option ov_V → ov_Z → ov_H → Prop := fun r0 z' h' => ∃ r : Int, r0 = some (ov_i r) ∧ ov_I F z' h' ∧ ((h' 1 1) = 0 ∧ ((h' 36 7) = 1 → (h' 36 8) = (h' 0 10)) ∧ ((h' 0 10) = 58 ∧ (h' 0 11) = 70 ∧ 0 ≤ (h' 64 0) ∧ 1 ≤ (h' 58 0) ∧ 1 ≤ (h' 58 1) ∨ (h' 0 10) = 70 ∧ (h' 0 11) = 58 ∧ 0 ≤ (h' 76 0) ∧ 1 ≤ (h' 70 0) ∧ 1 ≤ (h' 70 1)) ∧ r = f0 ∧ (r = 0 → (h' 35 0) = 0) ∧ (¬ r = 0 → (h' 35 0) = (h 35 0)) ∧ (r = 0 → (h' 35 1) = 0) ∧ (¬ r = 0 → (h' 35 1) = (h 35 1)) ∧ (r = 0 → (h' 35 2) = 0) ∧ (¬ r = 0 → (h' 35 2) = (h 35 2)) ∧ (r = 0 → (h' 35 3) = 0) ∧ (¬ r = 0 → (h' 35 3) = (h 35 3)) ∧ (h' 90 2) = (h 90 2) ∧ (h' 0 12) = (h 0 12) ∧ (h' 0 13) = (h 0 13) ∧ (h' 46 3) = (h 46 3) ∧ (h' 46 4) = (h 46 4) ∧ (h' 49 4) = (h 49 4) ∧ (h' 49 5) = (h 49 5))
set_option maxHeartbeats 4000000 in
theorem c_OF_town_0_m {u : ov_U} {F : ov_H} (t : Int → Int) (m f0 : Int) (hf : ∀ (f : Int) (B : Int → Int), pt_ET t m f B → f = f0) {z : ov_Z} {h : ov_H} (d : Nat) (hd : 50 ≤ d) (U : ov_cap u) (I : ov_I F z h) (hw : ov_kw 84624216788983341731807771 F) (p0 : h 36 7 = 1 → h 36 8 = h 0 10) (p1 : (h 0 10 = 58 ∧ h 0 11 = 70 ∧ 0 ≤ h 64 0 ∧ F (-5) 58 = 1 ∨ h 0 10 = 70 ∧ h 0 11 = 58 ∧ 0 ≤ h 76 0 ∧ F (-5) 70 = 1)) (et : h 2 = t) (em : h 1 1 = m) : ov_T u d ov_m23 [ov_r 0] z h (P_OF_town_0_m f0 F z h) := by
  refine ov_en rfl (Nat.le_of_ble_eq_true rfl) ?_
  show ov_R u d ov_m23 0 [(0, ov_r 0)] [] z h (P_OF_town_0_m f0 F z h)
  refine ov_blk (ls2 := [(0, ov_r 0)]) (st2 := [ov_r 0]) (pc2 := 1) b_23_0_1 rfl rfl ?_
  refine ov_getf (v := ov_r 3) d_23_1 fl_OF_21 (zb_0 I) (zs_0 I) (congrArg ov_r (rg_0_1 I)) ?_
  refine ov_blk (ls2 := [(0, ov_r 0)]) (st2 := [ov_r 0, ov_r 3]) (pc2 := 5) b_23_4_1 rfl rfl ?_
  rcases rg_0_11 I with e1 | e1
  · skip
    refine ov_getf (v := ov_r 58) d_23_5 fl_OF_82 (zb_0 I) (zs_0 I) (congrArg ov_r e1) ?_
    refine ov_cV (as := [ov_r 58]) (st := []) (d2 := d - 1) d_23_8 lk_OF_109 rfl (Nat.le_of_ble_eq_true rfl) (c := 6) (zb_3 I) (zs_3 I) ⟨by decide, rfl⟩ (by omega) (c_Reader_readTown_3_58_s t m f0 hf et em (d - 1) (by omega) U (ov_I_ff (M := 34359738368) I) (ov_kw_ff (ov_kws hw (by decide +kernel)) (by decide +kernel))) ?_
    rintro _ z4 h5 ⟨v3, rfl, I6, f2⟩
    have I6k := I6
    have I6 := ov_I_fr I I6k
    have er7 : h5 35 = h 35 := ov_ff_k I6k (Or.inl (by decide)) (by decide +kernel)
    have ek8 : h5 35 0 = (h 35 0) := congrFun er7 0
    have ek9 : h5 35 1 = (h 35 1) := congrFun er7 1
    have ek10 : h5 35 2 = (h 35 2) := congrFun er7 2
    have ek11 : h5 35 3 = (h 35 3) := congrFun er7 3
    show ov_R u d ov_m23 11 [(0, ov_r 0)] [ov_i v3] z4 h5 (P_OF_town_0_m f0 F z h)
    have f12 : (h5 1 1) = 0 ∧ -2147483648 ≤ v3 ∧ v3 ≤ 2147483647 ∧ (v3 = 0 → 0 ≤ (h5 64 0)) ∧ 1 ≤ (h5 58 0) ∧ 1 ≤ (h5 58 1) ∧ v3 = f0 ∧ (h5 36 7) = (h 36 7) ∧ (h5 90 2) = (h 90 2) ∧ (h5 0 10) = (h 0 10) ∧ (h5 0 11) = (h 0 11) ∧ (h5 0 12) = (h 0 12) ∧ (h5 0 13) = (h 0 13) ∧ (h5 36 8) = (h 36 8) ∧ (h5 46 3) = (h 46 3) ∧ (h5 46 4) = (h 46 4) ∧ (h5 49 4) = (h 49 4) ∧ (h5 49 5) = (h 49 5) ∧ (h5 76 0) = (h 76 0) := f2
    clear f2
    have e13 : h5 0 11 = 58 := by omega
    have I14 := ov_I_fu (T := 58) I6 (by omega)
    refine ov_blk (ls2 := [(0, ov_r 0), (1, ov_i v3)]) (st2 := [ov_i v3]) (pc2 := 13) b_23_11_2 rfl rfl ?_
    refine ov_ifne (tgt := 63) d_23_13 (by decide) (by omega) (fun c15 => ?_) (fun c15 => ?_)
    · skip
      refine ov_blk (ls2 := [(0, ov_r 0), (1, ov_i v3)]) (st2 := [ov_i v3]) (pc2 := 64) b_23_63_1 rfl rfl ?_
      have gf16 : 1 ≤ (h5 58 0) ∧ 1 ≤ (h5 58 1) := ov_I_fg (h := h5) (T := 58) (by omega) I14
      have gk : F (-5) 70 = 1 := by omega
      have gf17 : 1 ≤ (h5 70 0) ∧ 1 ≤ (h5 70 1) := ov_I_fk (h := h5) (S := 70) (by omega) I14 gk
      exact ov_reti (st := []) d_23_64 rfl ⟨_, rfl, (ov_I_fd I14), (by show (h5 1 1) = 0 ∧ ((h5 36 7) = 1 → (h5 36 8) = (h5 0 10)) ∧ ((h5 0 10) = 58 ∧ (h5 0 11) = 70 ∧ 0 ≤ (h5 64 0) ∧ 1 ≤ (h5 58 0) ∧ 1 ≤ (h5 58 1) ∨ (h5 0 10) = 70 ∧ (h5 0 11) = 58 ∧ 0 ≤ (h5 76 0) ∧ 1 ≤ (h5 70 0) ∧ 1 ≤ (h5 70 1)) ∧ v3 = f0 ∧ (v3 = 0 → (h5 35 0) = 0) ∧ (¬ v3 = 0 → (h5 35 0) = (h 35 0)) ∧ (v3 = 0 → (h5 35 1) = 0) ∧ (¬ v3 = 0 → (h5 35 1) = (h 35 1)) ∧ (v3 = 0 → (h5 35 2) = 0) ∧ (¬ v3 = 0 → (h5 35 2) = (h 35 2)) ∧ (v3 = 0 → (h5 35 3) = 0) ∧ (¬ v3 = 0 → (h5 35 3) = (h 35 3)) ∧ (h5 90 2) = (h 90 2) ∧ (h5 0 12) = (h 0 12) ∧ (h5 0 13) = (h 0 13) ∧ (h5 46 3) = (h 46 3) ∧ (h5 46 4) = (h 46 4) ∧ (h5 49 4) = (h 49 4) ∧ (h5 49 5) = (h 49 5); omega)⟩
    · skip
      refine ov_blk (ls2 := [(0, ov_r 0), (1, ov_i v3)]) (st2 := [ov_r 0]) (pc2 := 17) b_23_16_1 rfl rfl ?_
      rcases rg_0_10 I14 with e18 | e18
      · skip
        refine ov_getf (v := ov_r 58) d_23_17 fl_OF_78 (zb_0 I14) (zs_0 I14) (congrArg ov_r e18) ?_
        refine ov_blk (ls2 := [(0, ov_r 0), (1, ov_i v3), (2, ov_r 58)]) (st2 := [ov_r 0, ov_r 0]) (pc2 := 23) b_23_20_3 rfl rfl ?_
        refine ov_getf (v := ov_r 58) d_23_23 fl_OF_82 (zb_0 I14) (zs_0 I14) (congrArg ov_r e13) ?_
        refine ov_putf (x := 58) d_23_26 fl_OF_78 (zb_0 I14) (zs_0 I14) rfl nk_2 rfl ?_
        have I19 := up_0_10 (x := 58) I14 (by omega) ((ov_kwu hw) 0 (by decide +kernel))
        refine ov_blk (ls2 := [(0, ov_r 0), (1, ov_i v3), (2, ov_r 58)]) (st2 := [ov_r 58, ov_r 0]) (pc2 := 31) b_23_29_2 rfl rfl ?_
        refine ov_putf (x := 58) d_23_31 fl_OF_82 (zb_0 I19) (zs_0 I19) rfl nk_2 rfl ?_
        have I20 := up_0_11 (x := 58) I19 (by omega) ((ov_kwu hw) 0 (by decide +kernel))
        refine ov_blk (ls2 := [(0, ov_r 0), (1, ov_i v3), (2, ov_r 58)]) (st2 := [ov_r 0]) (pc2 := 35) b_23_34_1 rfl rfl ?_
        rcases rg_0_12 I14 with e21 | e21
        · skip
          refine ov_getf (v := ov_r 82) d_23_35 fl_OF_88 (zb_0 I20) (zs_0 I20) (congrArg ov_r e21) ?_
          refine ov_cV (as := []) (st := []) (d2 := d - 1) d_23_38 lk_OF_113 rfl (Nat.le_of_ble_eq_true rfl) (c := 10) (zb_82 I20) (zs_82 I20) ⟨by decide, rfl⟩ (by omega) (c_Walk_clear_82 (d - 1) (by omega) U (ov_I_ff (M := 34359738368) I20) (ov_kw_ff (ov_kws (ov_kwu hw) (by decide +kernel)) (by decide +kernel))) ?_
          rintro _ z23 h24 ⟨rfl, I25, f22⟩
          have I25k := I25
          have I25 := ov_I_fr I20 I25k
          have er26 : h24 35 = (ov_up (ov_up h5 0 10 58) 0 11 58) 35 := ov_ff_k I25k (Or.inl (by decide)) (by decide +kernel)
          have ek27 : h24 35 0 = (h5 35 0) := congrFun er26 0
          have ek28 : h24 35 1 = (h5 35 1) := congrFun er26 1
          have ek29 : h24 35 2 = (h5 35 2) := congrFun er26 2
          have ek30 : h24 35 3 = (h5 35 3) := congrFun er26 3
          show ov_R u d ov_m23 41 [(0, ov_r 0), (1, ov_i v3), (2, ov_r 58)] [] z23 h24 (P_OF_town_0_m f0 F z h)
          have f31 : (h24 36 7) = (h5 36 7) ∧ (h24 1 1) = (h5 1 1) ∧ (h24 90 2) = (h5 90 2) ∧ (h24 0 10) = 58 ∧ (h24 0 11) = 58 ∧ (h24 0 12) = (h5 0 12) ∧ (h24 0 13) = (h5 0 13) ∧ (h24 3 1) = (h5 3 1) ∧ (h24 36 8) = (h5 36 8) ∧ (h24 46 3) = (h5 46 3) ∧ (h24 46 4) = (h5 46 4) ∧ (h24 49 4) = (h5 49 4) ∧ (h24 49 5) = (h5 49 5) ∧ (h24 64 0) = (h5 64 0) ∧ (h24 76 0) = (h5 76 0) := f22
          clear f22
          have e32 : h24 0 10 = 58 := by omega
          have e33 : h24 0 11 = 58 := by omega
          have e34 : h24 0 12 = 82 := by omega
          refine ov_blk (ls2 := [(0, ov_r 0), (1, ov_i v3), (2, ov_r 58)]) (st2 := [ov_r 0]) (pc2 := 42) b_23_41_1 rfl rfl ?_
          refine ov_getf (v := ov_r 4) d_23_42 fl_OF_28 (zb_0 I25) (zs_0 I25) (congrArg ov_r (rg_0_2 I25)) ?_
          refine ov_cV (as := []) (st := []) (d2 := d - 1) d_23_45 lk_OF_114 rfl (Nat.le_of_ble_eq_true rfl) (c := 7) (zb_4 I25) (zs_4 I25) ⟨by decide, rfl⟩ (by omega) (c_State_clear_4 (d - 1) (by omega) U (ov_I_ff (M := 34359738368) I25) (ov_kw_ff (ov_kws (ov_kwu hw) (by decide +kernel)) (by decide +kernel))) ?_
          rintro _ z36 h37 ⟨rfl, I38, f35⟩
          have I38k := I38
          have I38 := ov_I_fr I25 I38k
          have er39 : h37 35 = h24 35 := ov_ff_k I38k (Or.inl (by decide)) (by decide +kernel)
          have ek40 : h37 35 0 = (h24 35 0) := congrFun er39 0
          have ek41 : h37 35 1 = (h24 35 1) := congrFun er39 1
          have ek42 : h37 35 2 = (h24 35 2) := congrFun er39 2
          have ek43 : h37 35 3 = (h24 35 3) := congrFun er39 3
          show ov_R u d ov_m23 48 [(0, ov_r 0), (1, ov_i v3), (2, ov_r 58)] [] z36 h37 (P_OF_town_0_m f0 F z h)
          have f44 : (h37 36 7) = (h24 36 7) ∧ (h37 1 1) = (h24 1 1) ∧ (h37 90 2) = (h24 90 2) ∧ (h37 0 10) = (h24 0 10) ∧ (h37 0 11) = (h24 0 11) ∧ (h37 0 12) = (h24 0 12) ∧ (h37 0 13) = (h24 0 13) ∧ (h37 3 1) = (h24 3 1) ∧ (h37 36 8) = (h24 36 8) ∧ (h37 46 3) = (h24 46 3) ∧ (h37 46 4) = (h24 46 4) ∧ (h37 49 4) = (h24 49 4) ∧ (h37 49 5) = (h24 49 5) ∧ (h37 64 0) = (h24 64 0) ∧ (h37 76 0) = (h24 76 0) := f35
          clear f35
          have e45 : h37 0 10 = 58 := by omega
          have e46 : h37 0 11 = 58 := by omega
          have e47 : h37 0 12 = 82 := by omega
          refine ov_blk (ls2 := [(0, ov_r 0), (1, ov_i v3), (2, ov_r 58)]) (st2 := [ov_r 0]) (pc2 := 49) b_23_48_1 rfl rfl ?_
          refine ov_getf (v := ov_r 9) d_23_49 fl_OF_35 (zb_0 I38) (zs_0 I38) (congrArg ov_r (rg_0_3 I38)) ?_
          refine ov_cV (as := []) (st := []) (d2 := d - 1) d_23_52 lk_OF_115 rfl (Nat.le_of_ble_eq_true rfl) (c := 3) (zb_9 I38) (zs_9 I38) ⟨by decide, rfl⟩ (by omega) (c_History_clear_9 (d - 1) (by omega) U (ov_I_ff (M := 34359738368) I38) (ov_kw_ff (ov_kws (ov_kwu hw) (by decide +kernel)) (by decide +kernel))) ?_
          rintro _ z49 h50 ⟨rfl, I51, f48⟩
          have I51k := I51
          have I51 := ov_I_fr I38 I51k
          have er52 : h50 35 = h37 35 := ov_ff_k I51k (Or.inl (by decide)) (by decide +kernel)
          have ek53 : h50 35 0 = (h37 35 0) := congrFun er52 0
          have ek54 : h50 35 1 = (h37 35 1) := congrFun er52 1
          have ek55 : h50 35 2 = (h37 35 2) := congrFun er52 2
          have ek56 : h50 35 3 = (h37 35 3) := congrFun er52 3
          show ov_R u d ov_m23 55 [(0, ov_r 0), (1, ov_i v3), (2, ov_r 58)] [] z49 h50 (P_OF_town_0_m f0 F z h)
          have f57 : (h50 36 7) = (h37 36 7) ∧ (h50 1 1) = (h37 1 1) ∧ (h50 90 2) = (h37 90 2) ∧ (h50 0 10) = (h37 0 10) ∧ (h50 0 11) = (h37 0 11) ∧ (h50 0 12) = (h37 0 12) ∧ (h50 0 13) = (h37 0 13) ∧ (h50 3 1) = (h37 3 1) ∧ (h50 36 8) = (h37 36 8) ∧ (h50 46 3) = (h37 46 3) ∧ (h50 46 4) = (h37 46 4) ∧ (h50 49 4) = (h37 49 4) ∧ (h50 49 5) = (h37 49 5) ∧ (h50 64 0) = (h37 64 0) ∧ (h50 76 0) = (h37 76 0) := f48
          clear f48
          have e58 : h50 0 10 = 58 := by omega
          have e59 : h50 0 11 = 58 := by omega
          have e60 : h50 0 12 = 82 := by omega
          refine ov_blk (ls2 := [(0, ov_r 0), (1, ov_i v3), (2, ov_r 58)]) (st2 := [ov_r 0]) (pc2 := 56) b_23_55_1 rfl rfl ?_
          refine ov_cV (as := []) (st := []) (d2 := d - 1) d_23_56 lk_OF_116 rfl (Nat.le_of_ble_eq_true rfl) (c := 0) (zb_0 I51) (zs_0 I51) ⟨by decide, rfl⟩ (by omega) (c_OF_forgetMarks_0_m (d - 1) (by omega) U I51 (ov_kws (ov_kwu hw) (by decide +kernel))) ?_
          rintro _ z62 h63 ⟨rfl, I64, f61⟩
          show ov_R u d ov_m23 59 [(0, ov_r 0), (1, ov_i v3), (2, ov_r 58)] [] z62 h63 (P_OF_town_0_m f0 F z h)
          have f65 : (h63 35 0) = 0 ∧ (h63 35 1) = 0 ∧ (h63 35 2) = 0 ∧ (h63 35 3) = 0 ∧ (h63 36 7) = (h50 36 7) ∧ (h63 1 1) = (h50 1 1) ∧ (h63 90 2) = (h50 90 2) ∧ (h63 0 10) = (h50 0 10) ∧ (h63 0 11) = (h50 0 11) ∧ (h63 0 12) = (h50 0 12) ∧ (h63 0 13) = (h50 0 13) ∧ (h63 3 1) = (h50 3 1) ∧ (h63 36 8) = (h50 36 8) ∧ (h63 46 3) = (h50 46 3) ∧ (h63 46 4) = (h50 46 4) ∧ (h63 49 4) = (h50 49 4) ∧ (h63 49 5) = (h50 49 5) ∧ (h63 64 0) = (h50 64 0) ∧ (h63 76 0) = (h50 76 0) := f61
          clear f61
          have e66 : h63 0 10 = 58 := by omega
          have e67 : h63 0 11 = 58 := by omega
          have e68 : h63 0 12 = 82 := by omega
          refine ov_blk (ls2 := [(0, ov_r 0), (1, ov_i v3), (2, ov_r 58)]) (st2 := [ov_r 0]) (pc2 := 60) b_23_59_1 rfl rfl ?_
          refine ov_cV (as := []) (st := []) (d2 := d - 1) d_23_60 lk_OF_119 rfl (Nat.le_of_ble_eq_true rfl) (c := 0) (zb_0 I64) (zs_0 I64) ⟨by decide, rfl⟩ (by omega) (c_OF_forgetReckonings_0 (d - 1) (by omega) U (ov_I_ff (M := 34359738368) I64)) ?_
          rintro _ z70 h71 ⟨rfl, I72, f69⟩
          have I72k := I72
          have I72 := ov_I_fr I64 I72k
          have er73 : h71 35 = h63 35 := ov_ff_k I72k (Or.inl (by decide)) (by decide +kernel)
          have ek74 : h71 35 0 = (h63 35 0) := congrFun er73 0
          have ek75 : h71 35 1 = (h63 35 1) := congrFun er73 1
          have ek76 : h71 35 2 = (h63 35 2) := congrFun er73 2
          have ek77 : h71 35 3 = (h63 35 3) := congrFun er73 3
          show ov_R u d ov_m23 63 [(0, ov_r 0), (1, ov_i v3), (2, ov_r 58)] [] z70 h71 (P_OF_town_0_m f0 F z h)
          have f78 : (h71 36 7) = 0 ∧ (h71 1 1) = (h63 1 1) ∧ (h71 90 2) = (h63 90 2) ∧ (h71 0 10) = (h63 0 10) ∧ (h71 0 11) = (h63 0 11) ∧ (h71 0 12) = (h63 0 12) ∧ (h71 0 13) = (h63 0 13) ∧ (h71 3 1) = (h63 3 1) ∧ (h71 36 8) = (h63 36 8) ∧ (h71 46 3) = (h63 46 3) ∧ (h71 46 4) = (h63 46 4) ∧ (h71 49 4) = (h63 49 4) ∧ (h71 49 5) = (h63 49 5) ∧ (h71 64 0) = (h63 64 0) ∧ (h71 76 0) = (h63 76 0) := f69
          clear f69
          have e79 : h71 0 10 = 58 := by omega
          have e80 : h71 0 11 = 58 := by omega
          have e81 : h71 0 12 = 82 := by omega
          refine ov_blk (ls2 := [(0, ov_r 0), (1, ov_i v3), (2, ov_r 58)]) (st2 := [ov_i v3]) (pc2 := 64) b_23_63_1 rfl rfl ?_
          have gf82 : 1 ≤ (h71 58 0) ∧ 1 ≤ (h71 58 1) := ov_I_fg (h := h71) (T := 58) (by omega) I72
          have gk : F (-5) 70 = 1 := by omega
          have gf83 : 1 ≤ (h71 70 0) ∧ 1 ≤ (h71 70 1) := ov_I_fk (h := h71) (S := 70) (by omega) I72 gk
          exact ov_reti (st := []) d_23_64 rfl ⟨_, rfl, (ov_I_fd I72), (by show (h71 1 1) = 0 ∧ ((h71 36 7) = 1 → (h71 36 8) = (h71 0 10)) ∧ ((h71 0 10) = 58 ∧ (h71 0 11) = 70 ∧ 0 ≤ (h71 64 0) ∧ 1 ≤ (h71 58 0) ∧ 1 ≤ (h71 58 1) ∨ (h71 0 10) = 70 ∧ (h71 0 11) = 58 ∧ 0 ≤ (h71 76 0) ∧ 1 ≤ (h71 70 0) ∧ 1 ≤ (h71 70 1)) ∧ v3 = f0 ∧ (v3 = 0 → (h71 35 0) = 0) ∧ (¬ v3 = 0 → (h71 35 0) = (h 35 0)) ∧ (v3 = 0 → (h71 35 1) = 0) ∧ (¬ v3 = 0 → (h71 35 1) = (h 35 1)) ∧ (v3 = 0 → (h71 35 2) = 0) ∧ (¬ v3 = 0 → (h71 35 2) = (h 35 2)) ∧ (v3 = 0 → (h71 35 3) = 0) ∧ (¬ v3 = 0 → (h71 35 3) = (h 35 3)) ∧ (h71 90 2) = (h 90 2) ∧ (h71 0 12) = (h 0 12) ∧ (h71 0 13) = (h 0 13) ∧ (h71 46 3) = (h 46 3) ∧ (h71 46 4) = (h 46 4) ∧ (h71 49 4) = (h 49 4) ∧ (h71 49 5) = (h 49 5); omega)⟩
        · skip
          refine ov_getf (v := ov_r 86) d_23_35 fl_OF_88 (zb_0 I20) (zs_0 I20) (congrArg ov_r e21) ?_
          refine ov_cV (as := []) (st := []) (d2 := d - 1) d_23_38 lk_OF_113 rfl (Nat.le_of_ble_eq_true rfl) (c := 10) (zb_86 I20) (zs_86 I20) ⟨by decide, rfl⟩ (by omega) (c_Walk_clear_86 (d - 1) (by omega) U (ov_I_ff (M := 34359738368) I20) (ov_kw_ff (ov_kws (ov_kwu hw) (by decide +kernel)) (by decide +kernel))) ?_
          rintro _ z85 h86 ⟨rfl, I87, f84⟩
          have I87k := I87
          have I87 := ov_I_fr I20 I87k
          have er88 : h86 35 = (ov_up (ov_up h5 0 10 58) 0 11 58) 35 := ov_ff_k I87k (Or.inl (by decide)) (by decide +kernel)
          have ek89 : h86 35 0 = (h5 35 0) := congrFun er88 0
          have ek90 : h86 35 1 = (h5 35 1) := congrFun er88 1
          have ek91 : h86 35 2 = (h5 35 2) := congrFun er88 2
          have ek92 : h86 35 3 = (h5 35 3) := congrFun er88 3
          show ov_R u d ov_m23 41 [(0, ov_r 0), (1, ov_i v3), (2, ov_r 58)] [] z85 h86 (P_OF_town_0_m f0 F z h)
          have f93 : (h86 36 7) = (h5 36 7) ∧ (h86 1 1) = (h5 1 1) ∧ (h86 90 2) = (h5 90 2) ∧ (h86 0 10) = 58 ∧ (h86 0 11) = 58 ∧ (h86 0 12) = (h5 0 12) ∧ (h86 0 13) = (h5 0 13) ∧ (h86 3 1) = (h5 3 1) ∧ (h86 36 8) = (h5 36 8) ∧ (h86 46 3) = (h5 46 3) ∧ (h86 46 4) = (h5 46 4) ∧ (h86 49 4) = (h5 49 4) ∧ (h86 49 5) = (h5 49 5) ∧ (h86 64 0) = (h5 64 0) ∧ (h86 76 0) = (h5 76 0) := f84
          clear f84
          have e94 : h86 0 10 = 58 := by omega
          have e95 : h86 0 11 = 58 := by omega
          have e96 : h86 0 12 = 86 := by omega
          refine ov_blk (ls2 := [(0, ov_r 0), (1, ov_i v3), (2, ov_r 58)]) (st2 := [ov_r 0]) (pc2 := 42) b_23_41_1 rfl rfl ?_
          refine ov_getf (v := ov_r 4) d_23_42 fl_OF_28 (zb_0 I87) (zs_0 I87) (congrArg ov_r (rg_0_2 I87)) ?_
          refine ov_cV (as := []) (st := []) (d2 := d - 1) d_23_45 lk_OF_114 rfl (Nat.le_of_ble_eq_true rfl) (c := 7) (zb_4 I87) (zs_4 I87) ⟨by decide, rfl⟩ (by omega) (c_State_clear_4 (d - 1) (by omega) U (ov_I_ff (M := 34359738368) I87) (ov_kw_ff (ov_kws (ov_kwu hw) (by decide +kernel)) (by decide +kernel))) ?_
          rintro _ z98 h99 ⟨rfl, I100, f97⟩
          have I100k := I100
          have I100 := ov_I_fr I87 I100k
          have er101 : h99 35 = h86 35 := ov_ff_k I100k (Or.inl (by decide)) (by decide +kernel)
          have ek102 : h99 35 0 = (h86 35 0) := congrFun er101 0
          have ek103 : h99 35 1 = (h86 35 1) := congrFun er101 1
          have ek104 : h99 35 2 = (h86 35 2) := congrFun er101 2
          have ek105 : h99 35 3 = (h86 35 3) := congrFun er101 3
          show ov_R u d ov_m23 48 [(0, ov_r 0), (1, ov_i v3), (2, ov_r 58)] [] z98 h99 (P_OF_town_0_m f0 F z h)
          have f106 : (h99 36 7) = (h86 36 7) ∧ (h99 1 1) = (h86 1 1) ∧ (h99 90 2) = (h86 90 2) ∧ (h99 0 10) = (h86 0 10) ∧ (h99 0 11) = (h86 0 11) ∧ (h99 0 12) = (h86 0 12) ∧ (h99 0 13) = (h86 0 13) ∧ (h99 3 1) = (h86 3 1) ∧ (h99 36 8) = (h86 36 8) ∧ (h99 46 3) = (h86 46 3) ∧ (h99 46 4) = (h86 46 4) ∧ (h99 49 4) = (h86 49 4) ∧ (h99 49 5) = (h86 49 5) ∧ (h99 64 0) = (h86 64 0) ∧ (h99 76 0) = (h86 76 0) := f97
          clear f97
          have e107 : h99 0 10 = 58 := by omega
          have e108 : h99 0 11 = 58 := by omega
          have e109 : h99 0 12 = 86 := by omega
          refine ov_blk (ls2 := [(0, ov_r 0), (1, ov_i v3), (2, ov_r 58)]) (st2 := [ov_r 0]) (pc2 := 49) b_23_48_1 rfl rfl ?_
          refine ov_getf (v := ov_r 9) d_23_49 fl_OF_35 (zb_0 I100) (zs_0 I100) (congrArg ov_r (rg_0_3 I100)) ?_
          refine ov_cV (as := []) (st := []) (d2 := d - 1) d_23_52 lk_OF_115 rfl (Nat.le_of_ble_eq_true rfl) (c := 3) (zb_9 I100) (zs_9 I100) ⟨by decide, rfl⟩ (by omega) (c_History_clear_9 (d - 1) (by omega) U (ov_I_ff (M := 34359738368) I100) (ov_kw_ff (ov_kws (ov_kwu hw) (by decide +kernel)) (by decide +kernel))) ?_
          rintro _ z111 h112 ⟨rfl, I113, f110⟩
          have I113k := I113
          have I113 := ov_I_fr I100 I113k
          have er114 : h112 35 = h99 35 := ov_ff_k I113k (Or.inl (by decide)) (by decide +kernel)
          have ek115 : h112 35 0 = (h99 35 0) := congrFun er114 0
          have ek116 : h112 35 1 = (h99 35 1) := congrFun er114 1
          have ek117 : h112 35 2 = (h99 35 2) := congrFun er114 2
          have ek118 : h112 35 3 = (h99 35 3) := congrFun er114 3
          show ov_R u d ov_m23 55 [(0, ov_r 0), (1, ov_i v3), (2, ov_r 58)] [] z111 h112 (P_OF_town_0_m f0 F z h)
          have f119 : (h112 36 7) = (h99 36 7) ∧ (h112 1 1) = (h99 1 1) ∧ (h112 90 2) = (h99 90 2) ∧ (h112 0 10) = (h99 0 10) ∧ (h112 0 11) = (h99 0 11) ∧ (h112 0 12) = (h99 0 12) ∧ (h112 0 13) = (h99 0 13) ∧ (h112 3 1) = (h99 3 1) ∧ (h112 36 8) = (h99 36 8) ∧ (h112 46 3) = (h99 46 3) ∧ (h112 46 4) = (h99 46 4) ∧ (h112 49 4) = (h99 49 4) ∧ (h112 49 5) = (h99 49 5) ∧ (h112 64 0) = (h99 64 0) ∧ (h112 76 0) = (h99 76 0) := f110
          clear f110
          have e120 : h112 0 10 = 58 := by omega
          have e121 : h112 0 11 = 58 := by omega
          have e122 : h112 0 12 = 86 := by omega
          refine ov_blk (ls2 := [(0, ov_r 0), (1, ov_i v3), (2, ov_r 58)]) (st2 := [ov_r 0]) (pc2 := 56) b_23_55_1 rfl rfl ?_
          refine ov_cV (as := []) (st := []) (d2 := d - 1) d_23_56 lk_OF_116 rfl (Nat.le_of_ble_eq_true rfl) (c := 0) (zb_0 I113) (zs_0 I113) ⟨by decide, rfl⟩ (by omega) (c_OF_forgetMarks_0_m (d - 1) (by omega) U I113 (ov_kws (ov_kwu hw) (by decide +kernel))) ?_
          rintro _ z124 h125 ⟨rfl, I126, f123⟩
          show ov_R u d ov_m23 59 [(0, ov_r 0), (1, ov_i v3), (2, ov_r 58)] [] z124 h125 (P_OF_town_0_m f0 F z h)
          have f127 : (h125 35 0) = 0 ∧ (h125 35 1) = 0 ∧ (h125 35 2) = 0 ∧ (h125 35 3) = 0 ∧ (h125 36 7) = (h112 36 7) ∧ (h125 1 1) = (h112 1 1) ∧ (h125 90 2) = (h112 90 2) ∧ (h125 0 10) = (h112 0 10) ∧ (h125 0 11) = (h112 0 11) ∧ (h125 0 12) = (h112 0 12) ∧ (h125 0 13) = (h112 0 13) ∧ (h125 3 1) = (h112 3 1) ∧ (h125 36 8) = (h112 36 8) ∧ (h125 46 3) = (h112 46 3) ∧ (h125 46 4) = (h112 46 4) ∧ (h125 49 4) = (h112 49 4) ∧ (h125 49 5) = (h112 49 5) ∧ (h125 64 0) = (h112 64 0) ∧ (h125 76 0) = (h112 76 0) := f123
          clear f123
          have e128 : h125 0 10 = 58 := by omega
          have e129 : h125 0 11 = 58 := by omega
          have e130 : h125 0 12 = 86 := by omega
          refine ov_blk (ls2 := [(0, ov_r 0), (1, ov_i v3), (2, ov_r 58)]) (st2 := [ov_r 0]) (pc2 := 60) b_23_59_1 rfl rfl ?_
          refine ov_cV (as := []) (st := []) (d2 := d - 1) d_23_60 lk_OF_119 rfl (Nat.le_of_ble_eq_true rfl) (c := 0) (zb_0 I126) (zs_0 I126) ⟨by decide, rfl⟩ (by omega) (c_OF_forgetReckonings_0 (d - 1) (by omega) U (ov_I_ff (M := 34359738368) I126)) ?_
          rintro _ z132 h133 ⟨rfl, I134, f131⟩
          have I134k := I134
          have I134 := ov_I_fr I126 I134k
          have er135 : h133 35 = h125 35 := ov_ff_k I134k (Or.inl (by decide)) (by decide +kernel)
          have ek136 : h133 35 0 = (h125 35 0) := congrFun er135 0
          have ek137 : h133 35 1 = (h125 35 1) := congrFun er135 1
          have ek138 : h133 35 2 = (h125 35 2) := congrFun er135 2
          have ek139 : h133 35 3 = (h125 35 3) := congrFun er135 3
          show ov_R u d ov_m23 63 [(0, ov_r 0), (1, ov_i v3), (2, ov_r 58)] [] z132 h133 (P_OF_town_0_m f0 F z h)
          have f140 : (h133 36 7) = 0 ∧ (h133 1 1) = (h125 1 1) ∧ (h133 90 2) = (h125 90 2) ∧ (h133 0 10) = (h125 0 10) ∧ (h133 0 11) = (h125 0 11) ∧ (h133 0 12) = (h125 0 12) ∧ (h133 0 13) = (h125 0 13) ∧ (h133 3 1) = (h125 3 1) ∧ (h133 36 8) = (h125 36 8) ∧ (h133 46 3) = (h125 46 3) ∧ (h133 46 4) = (h125 46 4) ∧ (h133 49 4) = (h125 49 4) ∧ (h133 49 5) = (h125 49 5) ∧ (h133 64 0) = (h125 64 0) ∧ (h133 76 0) = (h125 76 0) := f131
          clear f131
          have e141 : h133 0 10 = 58 := by omega
          have e142 : h133 0 11 = 58 := by omega
          have e143 : h133 0 12 = 86 := by omega
          refine ov_blk (ls2 := [(0, ov_r 0), (1, ov_i v3), (2, ov_r 58)]) (st2 := [ov_i v3]) (pc2 := 64) b_23_63_1 rfl rfl ?_
          have gf144 : 1 ≤ (h133 58 0) ∧ 1 ≤ (h133 58 1) := ov_I_fg (h := h133) (T := 58) (by omega) I134
          have gk : F (-5) 70 = 1 := by omega
          have gf145 : 1 ≤ (h133 70 0) ∧ 1 ≤ (h133 70 1) := ov_I_fk (h := h133) (S := 70) (by omega) I134 gk
          exact ov_reti (st := []) d_23_64 rfl ⟨_, rfl, (ov_I_fd I134), (by show (h133 1 1) = 0 ∧ ((h133 36 7) = 1 → (h133 36 8) = (h133 0 10)) ∧ ((h133 0 10) = 58 ∧ (h133 0 11) = 70 ∧ 0 ≤ (h133 64 0) ∧ 1 ≤ (h133 58 0) ∧ 1 ≤ (h133 58 1) ∨ (h133 0 10) = 70 ∧ (h133 0 11) = 58 ∧ 0 ≤ (h133 76 0) ∧ 1 ≤ (h133 70 0) ∧ 1 ≤ (h133 70 1)) ∧ v3 = f0 ∧ (v3 = 0 → (h133 35 0) = 0) ∧ (¬ v3 = 0 → (h133 35 0) = (h 35 0)) ∧ (v3 = 0 → (h133 35 1) = 0) ∧ (¬ v3 = 0 → (h133 35 1) = (h 35 1)) ∧ (v3 = 0 → (h133 35 2) = 0) ∧ (¬ v3 = 0 → (h133 35 2) = (h 35 2)) ∧ (v3 = 0 → (h133 35 3) = 0) ∧ (¬ v3 = 0 → (h133 35 3) = (h 35 3)) ∧ (h133 90 2) = (h 90 2) ∧ (h133 0 12) = (h 0 12) ∧ (h133 0 13) = (h 0 13) ∧ (h133 46 3) = (h 46 3) ∧ (h133 46 4) = (h 46 4) ∧ (h133 49 4) = (h 49 4) ∧ (h133 49 5) = (h 49 5); omega)⟩
      · skip
        refine ov_getf (v := ov_r 70) d_23_17 fl_OF_78 (zb_0 I14) (zs_0 I14) (congrArg ov_r e18) ?_
        refine ov_blk (ls2 := [(0, ov_r 0), (1, ov_i v3), (2, ov_r 70)]) (st2 := [ov_r 0, ov_r 0]) (pc2 := 23) b_23_20_3 rfl rfl ?_
        refine ov_getf (v := ov_r 58) d_23_23 fl_OF_82 (zb_0 I14) (zs_0 I14) (congrArg ov_r e13) ?_
        refine ov_putf (x := 58) d_23_26 fl_OF_78 (zb_0 I14) (zs_0 I14) rfl nk_2 rfl ?_
        have I146 := up_0_10 (x := 58) I14 (by omega) ((ov_kwu hw) 0 (by decide +kernel))
        refine ov_blk (ls2 := [(0, ov_r 0), (1, ov_i v3), (2, ov_r 70)]) (st2 := [ov_r 70, ov_r 0]) (pc2 := 31) b_23_29_2 rfl rfl ?_
        refine ov_putf (x := 70) d_23_31 fl_OF_82 (zb_0 I146) (zs_0 I146) rfl nk_2 rfl ?_
        have I147 := up_0_11 (x := 70) I146 (by omega) ((ov_kwu hw) 0 (by decide +kernel))
        refine ov_blk (ls2 := [(0, ov_r 0), (1, ov_i v3), (2, ov_r 70)]) (st2 := [ov_r 0]) (pc2 := 35) b_23_34_1 rfl rfl ?_
        rcases rg_0_12 I14 with e148 | e148
        · skip
          refine ov_getf (v := ov_r 82) d_23_35 fl_OF_88 (zb_0 I147) (zs_0 I147) (congrArg ov_r e148) ?_
          refine ov_cV (as := []) (st := []) (d2 := d - 1) d_23_38 lk_OF_113 rfl (Nat.le_of_ble_eq_true rfl) (c := 10) (zb_82 I147) (zs_82 I147) ⟨by decide, rfl⟩ (by omega) (c_Walk_clear_82 (d - 1) (by omega) U (ov_I_ff (M := 34359738368) I147) (ov_kw_ff (ov_kws (ov_kwu hw) (by decide +kernel)) (by decide +kernel))) ?_
          rintro _ z150 h151 ⟨rfl, I152, f149⟩
          have I152k := I152
          have I152 := ov_I_fr I147 I152k
          have er153 : h151 35 = (ov_up (ov_up h5 0 10 58) 0 11 70) 35 := ov_ff_k I152k (Or.inl (by decide)) (by decide +kernel)
          have ek154 : h151 35 0 = (h5 35 0) := congrFun er153 0
          have ek155 : h151 35 1 = (h5 35 1) := congrFun er153 1
          have ek156 : h151 35 2 = (h5 35 2) := congrFun er153 2
          have ek157 : h151 35 3 = (h5 35 3) := congrFun er153 3
          show ov_R u d ov_m23 41 [(0, ov_r 0), (1, ov_i v3), (2, ov_r 70)] [] z150 h151 (P_OF_town_0_m f0 F z h)
          have f158 : (h151 36 7) = (h5 36 7) ∧ (h151 1 1) = (h5 1 1) ∧ (h151 90 2) = (h5 90 2) ∧ (h151 0 10) = 58 ∧ (h151 0 11) = 70 ∧ (h151 0 12) = (h5 0 12) ∧ (h151 0 13) = (h5 0 13) ∧ (h151 3 1) = (h5 3 1) ∧ (h151 36 8) = (h5 36 8) ∧ (h151 46 3) = (h5 46 3) ∧ (h151 46 4) = (h5 46 4) ∧ (h151 49 4) = (h5 49 4) ∧ (h151 49 5) = (h5 49 5) ∧ (h151 64 0) = (h5 64 0) ∧ (h151 76 0) = (h5 76 0) := f149
          clear f149
          have e159 : h151 0 10 = 58 := by omega
          have e160 : h151 0 11 = 70 := by omega
          have e161 : h151 0 12 = 82 := by omega
          refine ov_blk (ls2 := [(0, ov_r 0), (1, ov_i v3), (2, ov_r 70)]) (st2 := [ov_r 0]) (pc2 := 42) b_23_41_1 rfl rfl ?_
          refine ov_getf (v := ov_r 4) d_23_42 fl_OF_28 (zb_0 I152) (zs_0 I152) (congrArg ov_r (rg_0_2 I152)) ?_
          refine ov_cV (as := []) (st := []) (d2 := d - 1) d_23_45 lk_OF_114 rfl (Nat.le_of_ble_eq_true rfl) (c := 7) (zb_4 I152) (zs_4 I152) ⟨by decide, rfl⟩ (by omega) (c_State_clear_4 (d - 1) (by omega) U (ov_I_ff (M := 34359738368) I152) (ov_kw_ff (ov_kws (ov_kwu hw) (by decide +kernel)) (by decide +kernel))) ?_
          rintro _ z163 h164 ⟨rfl, I165, f162⟩
          have I165k := I165
          have I165 := ov_I_fr I152 I165k
          have er166 : h164 35 = h151 35 := ov_ff_k I165k (Or.inl (by decide)) (by decide +kernel)
          have ek167 : h164 35 0 = (h151 35 0) := congrFun er166 0
          have ek168 : h164 35 1 = (h151 35 1) := congrFun er166 1
          have ek169 : h164 35 2 = (h151 35 2) := congrFun er166 2
          have ek170 : h164 35 3 = (h151 35 3) := congrFun er166 3
          show ov_R u d ov_m23 48 [(0, ov_r 0), (1, ov_i v3), (2, ov_r 70)] [] z163 h164 (P_OF_town_0_m f0 F z h)
          have f171 : (h164 36 7) = (h151 36 7) ∧ (h164 1 1) = (h151 1 1) ∧ (h164 90 2) = (h151 90 2) ∧ (h164 0 10) = (h151 0 10) ∧ (h164 0 11) = (h151 0 11) ∧ (h164 0 12) = (h151 0 12) ∧ (h164 0 13) = (h151 0 13) ∧ (h164 3 1) = (h151 3 1) ∧ (h164 36 8) = (h151 36 8) ∧ (h164 46 3) = (h151 46 3) ∧ (h164 46 4) = (h151 46 4) ∧ (h164 49 4) = (h151 49 4) ∧ (h164 49 5) = (h151 49 5) ∧ (h164 64 0) = (h151 64 0) ∧ (h164 76 0) = (h151 76 0) := f162
          clear f162
          have e172 : h164 0 10 = 58 := by omega
          have e173 : h164 0 11 = 70 := by omega
          have e174 : h164 0 12 = 82 := by omega
          refine ov_blk (ls2 := [(0, ov_r 0), (1, ov_i v3), (2, ov_r 70)]) (st2 := [ov_r 0]) (pc2 := 49) b_23_48_1 rfl rfl ?_
          refine ov_getf (v := ov_r 9) d_23_49 fl_OF_35 (zb_0 I165) (zs_0 I165) (congrArg ov_r (rg_0_3 I165)) ?_
          refine ov_cV (as := []) (st := []) (d2 := d - 1) d_23_52 lk_OF_115 rfl (Nat.le_of_ble_eq_true rfl) (c := 3) (zb_9 I165) (zs_9 I165) ⟨by decide, rfl⟩ (by omega) (c_History_clear_9 (d - 1) (by omega) U (ov_I_ff (M := 34359738368) I165) (ov_kw_ff (ov_kws (ov_kwu hw) (by decide +kernel)) (by decide +kernel))) ?_
          rintro _ z176 h177 ⟨rfl, I178, f175⟩
          have I178k := I178
          have I178 := ov_I_fr I165 I178k
          have er179 : h177 35 = h164 35 := ov_ff_k I178k (Or.inl (by decide)) (by decide +kernel)
          have ek180 : h177 35 0 = (h164 35 0) := congrFun er179 0
          have ek181 : h177 35 1 = (h164 35 1) := congrFun er179 1
          have ek182 : h177 35 2 = (h164 35 2) := congrFun er179 2
          have ek183 : h177 35 3 = (h164 35 3) := congrFun er179 3
          show ov_R u d ov_m23 55 [(0, ov_r 0), (1, ov_i v3), (2, ov_r 70)] [] z176 h177 (P_OF_town_0_m f0 F z h)
          have f184 : (h177 36 7) = (h164 36 7) ∧ (h177 1 1) = (h164 1 1) ∧ (h177 90 2) = (h164 90 2) ∧ (h177 0 10) = (h164 0 10) ∧ (h177 0 11) = (h164 0 11) ∧ (h177 0 12) = (h164 0 12) ∧ (h177 0 13) = (h164 0 13) ∧ (h177 3 1) = (h164 3 1) ∧ (h177 36 8) = (h164 36 8) ∧ (h177 46 3) = (h164 46 3) ∧ (h177 46 4) = (h164 46 4) ∧ (h177 49 4) = (h164 49 4) ∧ (h177 49 5) = (h164 49 5) ∧ (h177 64 0) = (h164 64 0) ∧ (h177 76 0) = (h164 76 0) := f175
          clear f175
          have e185 : h177 0 10 = 58 := by omega
          have e186 : h177 0 11 = 70 := by omega
          have e187 : h177 0 12 = 82 := by omega
          refine ov_blk (ls2 := [(0, ov_r 0), (1, ov_i v3), (2, ov_r 70)]) (st2 := [ov_r 0]) (pc2 := 56) b_23_55_1 rfl rfl ?_
          refine ov_cV (as := []) (st := []) (d2 := d - 1) d_23_56 lk_OF_116 rfl (Nat.le_of_ble_eq_true rfl) (c := 0) (zb_0 I178) (zs_0 I178) ⟨by decide, rfl⟩ (by omega) (c_OF_forgetMarks_0_m (d - 1) (by omega) U I178 (ov_kws (ov_kwu hw) (by decide +kernel))) ?_
          rintro _ z189 h190 ⟨rfl, I191, f188⟩
          show ov_R u d ov_m23 59 [(0, ov_r 0), (1, ov_i v3), (2, ov_r 70)] [] z189 h190 (P_OF_town_0_m f0 F z h)
          have f192 : (h190 35 0) = 0 ∧ (h190 35 1) = 0 ∧ (h190 35 2) = 0 ∧ (h190 35 3) = 0 ∧ (h190 36 7) = (h177 36 7) ∧ (h190 1 1) = (h177 1 1) ∧ (h190 90 2) = (h177 90 2) ∧ (h190 0 10) = (h177 0 10) ∧ (h190 0 11) = (h177 0 11) ∧ (h190 0 12) = (h177 0 12) ∧ (h190 0 13) = (h177 0 13) ∧ (h190 3 1) = (h177 3 1) ∧ (h190 36 8) = (h177 36 8) ∧ (h190 46 3) = (h177 46 3) ∧ (h190 46 4) = (h177 46 4) ∧ (h190 49 4) = (h177 49 4) ∧ (h190 49 5) = (h177 49 5) ∧ (h190 64 0) = (h177 64 0) ∧ (h190 76 0) = (h177 76 0) := f188
          clear f188
          have e193 : h190 0 10 = 58 := by omega
          have e194 : h190 0 11 = 70 := by omega
          have e195 : h190 0 12 = 82 := by omega
          refine ov_blk (ls2 := [(0, ov_r 0), (1, ov_i v3), (2, ov_r 70)]) (st2 := [ov_r 0]) (pc2 := 60) b_23_59_1 rfl rfl ?_
          refine ov_cV (as := []) (st := []) (d2 := d - 1) d_23_60 lk_OF_119 rfl (Nat.le_of_ble_eq_true rfl) (c := 0) (zb_0 I191) (zs_0 I191) ⟨by decide, rfl⟩ (by omega) (c_OF_forgetReckonings_0 (d - 1) (by omega) U (ov_I_ff (M := 34359738368) I191)) ?_
          rintro _ z197 h198 ⟨rfl, I199, f196⟩
          have I199k := I199
          have I199 := ov_I_fr I191 I199k
          have er200 : h198 35 = h190 35 := ov_ff_k I199k (Or.inl (by decide)) (by decide +kernel)
          have ek201 : h198 35 0 = (h190 35 0) := congrFun er200 0
          have ek202 : h198 35 1 = (h190 35 1) := congrFun er200 1
          have ek203 : h198 35 2 = (h190 35 2) := congrFun er200 2
          have ek204 : h198 35 3 = (h190 35 3) := congrFun er200 3
          show ov_R u d ov_m23 63 [(0, ov_r 0), (1, ov_i v3), (2, ov_r 70)] [] z197 h198 (P_OF_town_0_m f0 F z h)
          have f205 : (h198 36 7) = 0 ∧ (h198 1 1) = (h190 1 1) ∧ (h198 90 2) = (h190 90 2) ∧ (h198 0 10) = (h190 0 10) ∧ (h198 0 11) = (h190 0 11) ∧ (h198 0 12) = (h190 0 12) ∧ (h198 0 13) = (h190 0 13) ∧ (h198 3 1) = (h190 3 1) ∧ (h198 36 8) = (h190 36 8) ∧ (h198 46 3) = (h190 46 3) ∧ (h198 46 4) = (h190 46 4) ∧ (h198 49 4) = (h190 49 4) ∧ (h198 49 5) = (h190 49 5) ∧ (h198 64 0) = (h190 64 0) ∧ (h198 76 0) = (h190 76 0) := f196
          clear f196
          have e206 : h198 0 10 = 58 := by omega
          have e207 : h198 0 11 = 70 := by omega
          have e208 : h198 0 12 = 82 := by omega
          refine ov_blk (ls2 := [(0, ov_r 0), (1, ov_i v3), (2, ov_r 70)]) (st2 := [ov_i v3]) (pc2 := 64) b_23_63_1 rfl rfl ?_
          have gf209 : 1 ≤ (h198 58 0) ∧ 1 ≤ (h198 58 1) := ov_I_fg (h := h198) (T := 58) (by omega) I199
          have gk : F (-5) 70 = 1 := by omega
          have gf210 : 1 ≤ (h198 70 0) ∧ 1 ≤ (h198 70 1) := ov_I_fk (h := h198) (S := 70) (by omega) I199 gk
          exact ov_reti (st := []) d_23_64 rfl ⟨_, rfl, (ov_I_fd I199), (by show (h198 1 1) = 0 ∧ ((h198 36 7) = 1 → (h198 36 8) = (h198 0 10)) ∧ ((h198 0 10) = 58 ∧ (h198 0 11) = 70 ∧ 0 ≤ (h198 64 0) ∧ 1 ≤ (h198 58 0) ∧ 1 ≤ (h198 58 1) ∨ (h198 0 10) = 70 ∧ (h198 0 11) = 58 ∧ 0 ≤ (h198 76 0) ∧ 1 ≤ (h198 70 0) ∧ 1 ≤ (h198 70 1)) ∧ v3 = f0 ∧ (v3 = 0 → (h198 35 0) = 0) ∧ (¬ v3 = 0 → (h198 35 0) = (h 35 0)) ∧ (v3 = 0 → (h198 35 1) = 0) ∧ (¬ v3 = 0 → (h198 35 1) = (h 35 1)) ∧ (v3 = 0 → (h198 35 2) = 0) ∧ (¬ v3 = 0 → (h198 35 2) = (h 35 2)) ∧ (v3 = 0 → (h198 35 3) = 0) ∧ (¬ v3 = 0 → (h198 35 3) = (h 35 3)) ∧ (h198 90 2) = (h 90 2) ∧ (h198 0 12) = (h 0 12) ∧ (h198 0 13) = (h 0 13) ∧ (h198 46 3) = (h 46 3) ∧ (h198 46 4) = (h 46 4) ∧ (h198 49 4) = (h 49 4) ∧ (h198 49 5) = (h 49 5); omega)⟩
        · skip
          refine ov_getf (v := ov_r 86) d_23_35 fl_OF_88 (zb_0 I147) (zs_0 I147) (congrArg ov_r e148) ?_
          refine ov_cV (as := []) (st := []) (d2 := d - 1) d_23_38 lk_OF_113 rfl (Nat.le_of_ble_eq_true rfl) (c := 10) (zb_86 I147) (zs_86 I147) ⟨by decide, rfl⟩ (by omega) (c_Walk_clear_86 (d - 1) (by omega) U (ov_I_ff (M := 34359738368) I147) (ov_kw_ff (ov_kws (ov_kwu hw) (by decide +kernel)) (by decide +kernel))) ?_
          rintro _ z212 h213 ⟨rfl, I214, f211⟩
          have I214k := I214
          have I214 := ov_I_fr I147 I214k
          have er215 : h213 35 = (ov_up (ov_up h5 0 10 58) 0 11 70) 35 := ov_ff_k I214k (Or.inl (by decide)) (by decide +kernel)
          have ek216 : h213 35 0 = (h5 35 0) := congrFun er215 0
          have ek217 : h213 35 1 = (h5 35 1) := congrFun er215 1
          have ek218 : h213 35 2 = (h5 35 2) := congrFun er215 2
          have ek219 : h213 35 3 = (h5 35 3) := congrFun er215 3
          show ov_R u d ov_m23 41 [(0, ov_r 0), (1, ov_i v3), (2, ov_r 70)] [] z212 h213 (P_OF_town_0_m f0 F z h)
          have f220 : (h213 36 7) = (h5 36 7) ∧ (h213 1 1) = (h5 1 1) ∧ (h213 90 2) = (h5 90 2) ∧ (h213 0 10) = 58 ∧ (h213 0 11) = 70 ∧ (h213 0 12) = (h5 0 12) ∧ (h213 0 13) = (h5 0 13) ∧ (h213 3 1) = (h5 3 1) ∧ (h213 36 8) = (h5 36 8) ∧ (h213 46 3) = (h5 46 3) ∧ (h213 46 4) = (h5 46 4) ∧ (h213 49 4) = (h5 49 4) ∧ (h213 49 5) = (h5 49 5) ∧ (h213 64 0) = (h5 64 0) ∧ (h213 76 0) = (h5 76 0) := f211
          clear f211
          have e221 : h213 0 10 = 58 := by omega
          have e222 : h213 0 11 = 70 := by omega
          have e223 : h213 0 12 = 86 := by omega
          refine ov_blk (ls2 := [(0, ov_r 0), (1, ov_i v3), (2, ov_r 70)]) (st2 := [ov_r 0]) (pc2 := 42) b_23_41_1 rfl rfl ?_
          refine ov_getf (v := ov_r 4) d_23_42 fl_OF_28 (zb_0 I214) (zs_0 I214) (congrArg ov_r (rg_0_2 I214)) ?_
          refine ov_cV (as := []) (st := []) (d2 := d - 1) d_23_45 lk_OF_114 rfl (Nat.le_of_ble_eq_true rfl) (c := 7) (zb_4 I214) (zs_4 I214) ⟨by decide, rfl⟩ (by omega) (c_State_clear_4 (d - 1) (by omega) U (ov_I_ff (M := 34359738368) I214) (ov_kw_ff (ov_kws (ov_kwu hw) (by decide +kernel)) (by decide +kernel))) ?_
          rintro _ z225 h226 ⟨rfl, I227, f224⟩
          have I227k := I227
          have I227 := ov_I_fr I214 I227k
          have er228 : h226 35 = h213 35 := ov_ff_k I227k (Or.inl (by decide)) (by decide +kernel)
          have ek229 : h226 35 0 = (h213 35 0) := congrFun er228 0
          have ek230 : h226 35 1 = (h213 35 1) := congrFun er228 1
          have ek231 : h226 35 2 = (h213 35 2) := congrFun er228 2
          have ek232 : h226 35 3 = (h213 35 3) := congrFun er228 3
          show ov_R u d ov_m23 48 [(0, ov_r 0), (1, ov_i v3), (2, ov_r 70)] [] z225 h226 (P_OF_town_0_m f0 F z h)
          have f233 : (h226 36 7) = (h213 36 7) ∧ (h226 1 1) = (h213 1 1) ∧ (h226 90 2) = (h213 90 2) ∧ (h226 0 10) = (h213 0 10) ∧ (h226 0 11) = (h213 0 11) ∧ (h226 0 12) = (h213 0 12) ∧ (h226 0 13) = (h213 0 13) ∧ (h226 3 1) = (h213 3 1) ∧ (h226 36 8) = (h213 36 8) ∧ (h226 46 3) = (h213 46 3) ∧ (h226 46 4) = (h213 46 4) ∧ (h226 49 4) = (h213 49 4) ∧ (h226 49 5) = (h213 49 5) ∧ (h226 64 0) = (h213 64 0) ∧ (h226 76 0) = (h213 76 0) := f224
          clear f224
          have e234 : h226 0 10 = 58 := by omega
          have e235 : h226 0 11 = 70 := by omega
          have e236 : h226 0 12 = 86 := by omega
          refine ov_blk (ls2 := [(0, ov_r 0), (1, ov_i v3), (2, ov_r 70)]) (st2 := [ov_r 0]) (pc2 := 49) b_23_48_1 rfl rfl ?_
          refine ov_getf (v := ov_r 9) d_23_49 fl_OF_35 (zb_0 I227) (zs_0 I227) (congrArg ov_r (rg_0_3 I227)) ?_
          refine ov_cV (as := []) (st := []) (d2 := d - 1) d_23_52 lk_OF_115 rfl (Nat.le_of_ble_eq_true rfl) (c := 3) (zb_9 I227) (zs_9 I227) ⟨by decide, rfl⟩ (by omega) (c_History_clear_9 (d - 1) (by omega) U (ov_I_ff (M := 34359738368) I227) (ov_kw_ff (ov_kws (ov_kwu hw) (by decide +kernel)) (by decide +kernel))) ?_
          rintro _ z238 h239 ⟨rfl, I240, f237⟩
          have I240k := I240
          have I240 := ov_I_fr I227 I240k
          have er241 : h239 35 = h226 35 := ov_ff_k I240k (Or.inl (by decide)) (by decide +kernel)
          have ek242 : h239 35 0 = (h226 35 0) := congrFun er241 0
          have ek243 : h239 35 1 = (h226 35 1) := congrFun er241 1
          have ek244 : h239 35 2 = (h226 35 2) := congrFun er241 2
          have ek245 : h239 35 3 = (h226 35 3) := congrFun er241 3
          show ov_R u d ov_m23 55 [(0, ov_r 0), (1, ov_i v3), (2, ov_r 70)] [] z238 h239 (P_OF_town_0_m f0 F z h)
          have f246 : (h239 36 7) = (h226 36 7) ∧ (h239 1 1) = (h226 1 1) ∧ (h239 90 2) = (h226 90 2) ∧ (h239 0 10) = (h226 0 10) ∧ (h239 0 11) = (h226 0 11) ∧ (h239 0 12) = (h226 0 12) ∧ (h239 0 13) = (h226 0 13) ∧ (h239 3 1) = (h226 3 1) ∧ (h239 36 8) = (h226 36 8) ∧ (h239 46 3) = (h226 46 3) ∧ (h239 46 4) = (h226 46 4) ∧ (h239 49 4) = (h226 49 4) ∧ (h239 49 5) = (h226 49 5) ∧ (h239 64 0) = (h226 64 0) ∧ (h239 76 0) = (h226 76 0) := f237
          clear f237
          have e247 : h239 0 10 = 58 := by omega
          have e248 : h239 0 11 = 70 := by omega
          have e249 : h239 0 12 = 86 := by omega
          refine ov_blk (ls2 := [(0, ov_r 0), (1, ov_i v3), (2, ov_r 70)]) (st2 := [ov_r 0]) (pc2 := 56) b_23_55_1 rfl rfl ?_
          refine ov_cV (as := []) (st := []) (d2 := d - 1) d_23_56 lk_OF_116 rfl (Nat.le_of_ble_eq_true rfl) (c := 0) (zb_0 I240) (zs_0 I240) ⟨by decide, rfl⟩ (by omega) (c_OF_forgetMarks_0_m (d - 1) (by omega) U I240 (ov_kws (ov_kwu hw) (by decide +kernel))) ?_
          rintro _ z251 h252 ⟨rfl, I253, f250⟩
          show ov_R u d ov_m23 59 [(0, ov_r 0), (1, ov_i v3), (2, ov_r 70)] [] z251 h252 (P_OF_town_0_m f0 F z h)
          have f254 : (h252 35 0) = 0 ∧ (h252 35 1) = 0 ∧ (h252 35 2) = 0 ∧ (h252 35 3) = 0 ∧ (h252 36 7) = (h239 36 7) ∧ (h252 1 1) = (h239 1 1) ∧ (h252 90 2) = (h239 90 2) ∧ (h252 0 10) = (h239 0 10) ∧ (h252 0 11) = (h239 0 11) ∧ (h252 0 12) = (h239 0 12) ∧ (h252 0 13) = (h239 0 13) ∧ (h252 3 1) = (h239 3 1) ∧ (h252 36 8) = (h239 36 8) ∧ (h252 46 3) = (h239 46 3) ∧ (h252 46 4) = (h239 46 4) ∧ (h252 49 4) = (h239 49 4) ∧ (h252 49 5) = (h239 49 5) ∧ (h252 64 0) = (h239 64 0) ∧ (h252 76 0) = (h239 76 0) := f250
          clear f250
          have e255 : h252 0 10 = 58 := by omega
          have e256 : h252 0 11 = 70 := by omega
          have e257 : h252 0 12 = 86 := by omega
          refine ov_blk (ls2 := [(0, ov_r 0), (1, ov_i v3), (2, ov_r 70)]) (st2 := [ov_r 0]) (pc2 := 60) b_23_59_1 rfl rfl ?_
          refine ov_cV (as := []) (st := []) (d2 := d - 1) d_23_60 lk_OF_119 rfl (Nat.le_of_ble_eq_true rfl) (c := 0) (zb_0 I253) (zs_0 I253) ⟨by decide, rfl⟩ (by omega) (c_OF_forgetReckonings_0 (d - 1) (by omega) U (ov_I_ff (M := 34359738368) I253)) ?_
          rintro _ z259 h260 ⟨rfl, I261, f258⟩
          have I261k := I261
          have I261 := ov_I_fr I253 I261k
          have er262 : h260 35 = h252 35 := ov_ff_k I261k (Or.inl (by decide)) (by decide +kernel)
          have ek263 : h260 35 0 = (h252 35 0) := congrFun er262 0
          have ek264 : h260 35 1 = (h252 35 1) := congrFun er262 1
          have ek265 : h260 35 2 = (h252 35 2) := congrFun er262 2
          have ek266 : h260 35 3 = (h252 35 3) := congrFun er262 3
          show ov_R u d ov_m23 63 [(0, ov_r 0), (1, ov_i v3), (2, ov_r 70)] [] z259 h260 (P_OF_town_0_m f0 F z h)
          have f267 : (h260 36 7) = 0 ∧ (h260 1 1) = (h252 1 1) ∧ (h260 90 2) = (h252 90 2) ∧ (h260 0 10) = (h252 0 10) ∧ (h260 0 11) = (h252 0 11) ∧ (h260 0 12) = (h252 0 12) ∧ (h260 0 13) = (h252 0 13) ∧ (h260 3 1) = (h252 3 1) ∧ (h260 36 8) = (h252 36 8) ∧ (h260 46 3) = (h252 46 3) ∧ (h260 46 4) = (h252 46 4) ∧ (h260 49 4) = (h252 49 4) ∧ (h260 49 5) = (h252 49 5) ∧ (h260 64 0) = (h252 64 0) ∧ (h260 76 0) = (h252 76 0) := f258
          clear f258
          have e268 : h260 0 10 = 58 := by omega
          have e269 : h260 0 11 = 70 := by omega
          have e270 : h260 0 12 = 86 := by omega
          refine ov_blk (ls2 := [(0, ov_r 0), (1, ov_i v3), (2, ov_r 70)]) (st2 := [ov_i v3]) (pc2 := 64) b_23_63_1 rfl rfl ?_
          have gf271 : 1 ≤ (h260 58 0) ∧ 1 ≤ (h260 58 1) := ov_I_fg (h := h260) (T := 58) (by omega) I261
          have gk : F (-5) 70 = 1 := by omega
          have gf272 : 1 ≤ (h260 70 0) ∧ 1 ≤ (h260 70 1) := ov_I_fk (h := h260) (S := 70) (by omega) I261 gk
          exact ov_reti (st := []) d_23_64 rfl ⟨_, rfl, (ov_I_fd I261), (by show (h260 1 1) = 0 ∧ ((h260 36 7) = 1 → (h260 36 8) = (h260 0 10)) ∧ ((h260 0 10) = 58 ∧ (h260 0 11) = 70 ∧ 0 ≤ (h260 64 0) ∧ 1 ≤ (h260 58 0) ∧ 1 ≤ (h260 58 1) ∨ (h260 0 10) = 70 ∧ (h260 0 11) = 58 ∧ 0 ≤ (h260 76 0) ∧ 1 ≤ (h260 70 0) ∧ 1 ≤ (h260 70 1)) ∧ v3 = f0 ∧ (v3 = 0 → (h260 35 0) = 0) ∧ (¬ v3 = 0 → (h260 35 0) = (h 35 0)) ∧ (v3 = 0 → (h260 35 1) = 0) ∧ (¬ v3 = 0 → (h260 35 1) = (h 35 1)) ∧ (v3 = 0 → (h260 35 2) = 0) ∧ (¬ v3 = 0 → (h260 35 2) = (h 35 2)) ∧ (v3 = 0 → (h260 35 3) = 0) ∧ (¬ v3 = 0 → (h260 35 3) = (h 35 3)) ∧ (h260 90 2) = (h 90 2) ∧ (h260 0 12) = (h 0 12) ∧ (h260 0 13) = (h 0 13) ∧ (h260 46 3) = (h 46 3) ∧ (h260 46 4) = (h 46 4) ∧ (h260 49 4) = (h 49 4) ∧ (h260 49 5) = (h 49 5); omega)⟩
  · skip
    refine ov_getf (v := ov_r 70) d_23_5 fl_OF_82 (zb_0 I) (zs_0 I) (congrArg ov_r e1) ?_
    refine ov_cV (as := [ov_r 70]) (st := []) (d2 := d - 1) d_23_8 lk_OF_109 rfl (Nat.le_of_ble_eq_true rfl) (c := 6) (zb_3 I) (zs_3 I) ⟨by decide, rfl⟩ (by omega) (c_Reader_readTown_3_70_s t m f0 hf et em (d - 1) (by omega) U (ov_I_ff (M := 34359738368) I) (ov_kw_ff (ov_kws hw (by decide +kernel)) (by decide +kernel))) ?_
    rintro _ z275 h276 ⟨v274, rfl, I277, f273⟩
    have I277k := I277
    have I277 := ov_I_fr I I277k
    have er278 : h276 35 = h 35 := ov_ff_k I277k (Or.inl (by decide)) (by decide +kernel)
    have ek279 : h276 35 0 = (h 35 0) := congrFun er278 0
    have ek280 : h276 35 1 = (h 35 1) := congrFun er278 1
    have ek281 : h276 35 2 = (h 35 2) := congrFun er278 2
    have ek282 : h276 35 3 = (h 35 3) := congrFun er278 3
    show ov_R u d ov_m23 11 [(0, ov_r 0)] [ov_i v274] z275 h276 (P_OF_town_0_m f0 F z h)
    have f283 : (h276 1 1) = 0 ∧ -2147483648 ≤ v274 ∧ v274 ≤ 2147483647 ∧ (v274 = 0 → 0 ≤ (h276 76 0)) ∧ 1 ≤ (h276 70 0) ∧ 1 ≤ (h276 70 1) ∧ v274 = f0 ∧ (h276 36 7) = (h 36 7) ∧ (h276 90 2) = (h 90 2) ∧ (h276 0 10) = (h 0 10) ∧ (h276 0 11) = (h 0 11) ∧ (h276 0 12) = (h 0 12) ∧ (h276 0 13) = (h 0 13) ∧ (h276 36 8) = (h 36 8) ∧ (h276 46 3) = (h 46 3) ∧ (h276 46 4) = (h 46 4) ∧ (h276 49 4) = (h 49 4) ∧ (h276 49 5) = (h 49 5) ∧ (h276 64 0) = (h 64 0) := f273
    clear f273
    have e284 : h276 0 11 = 70 := by omega
    have I285 := ov_I_fu (T := 70) I277 (by omega)
    refine ov_blk (ls2 := [(0, ov_r 0), (1, ov_i v274)]) (st2 := [ov_i v274]) (pc2 := 13) b_23_11_2 rfl rfl ?_
    refine ov_ifne (tgt := 63) d_23_13 (by decide) (by omega) (fun c286 => ?_) (fun c286 => ?_)
    · skip
      refine ov_blk (ls2 := [(0, ov_r 0), (1, ov_i v274)]) (st2 := [ov_i v274]) (pc2 := 64) b_23_63_1 rfl rfl ?_
      have gf287 : 1 ≤ (h276 70 0) ∧ 1 ≤ (h276 70 1) := ov_I_fg (h := h276) (T := 70) (by omega) I285
      have gk : F (-5) 58 = 1 := by omega
      have gf288 : 1 ≤ (h276 58 0) ∧ 1 ≤ (h276 58 1) := ov_I_fk (h := h276) (S := 58) (by omega) I285 gk
      exact ov_reti (st := []) d_23_64 rfl ⟨_, rfl, (ov_I_fd I285), (by show (h276 1 1) = 0 ∧ ((h276 36 7) = 1 → (h276 36 8) = (h276 0 10)) ∧ ((h276 0 10) = 58 ∧ (h276 0 11) = 70 ∧ 0 ≤ (h276 64 0) ∧ 1 ≤ (h276 58 0) ∧ 1 ≤ (h276 58 1) ∨ (h276 0 10) = 70 ∧ (h276 0 11) = 58 ∧ 0 ≤ (h276 76 0) ∧ 1 ≤ (h276 70 0) ∧ 1 ≤ (h276 70 1)) ∧ v274 = f0 ∧ (v274 = 0 → (h276 35 0) = 0) ∧ (¬ v274 = 0 → (h276 35 0) = (h 35 0)) ∧ (v274 = 0 → (h276 35 1) = 0) ∧ (¬ v274 = 0 → (h276 35 1) = (h 35 1)) ∧ (v274 = 0 → (h276 35 2) = 0) ∧ (¬ v274 = 0 → (h276 35 2) = (h 35 2)) ∧ (v274 = 0 → (h276 35 3) = 0) ∧ (¬ v274 = 0 → (h276 35 3) = (h 35 3)) ∧ (h276 90 2) = (h 90 2) ∧ (h276 0 12) = (h 0 12) ∧ (h276 0 13) = (h 0 13) ∧ (h276 46 3) = (h 46 3) ∧ (h276 46 4) = (h 46 4) ∧ (h276 49 4) = (h 49 4) ∧ (h276 49 5) = (h 49 5); omega)⟩
    · skip
      refine ov_blk (ls2 := [(0, ov_r 0), (1, ov_i v274)]) (st2 := [ov_r 0]) (pc2 := 17) b_23_16_1 rfl rfl ?_
      rcases rg_0_10 I285 with e289 | e289
      · skip
        refine ov_getf (v := ov_r 58) d_23_17 fl_OF_78 (zb_0 I285) (zs_0 I285) (congrArg ov_r e289) ?_
        refine ov_blk (ls2 := [(0, ov_r 0), (1, ov_i v274), (2, ov_r 58)]) (st2 := [ov_r 0, ov_r 0]) (pc2 := 23) b_23_20_3 rfl rfl ?_
        refine ov_getf (v := ov_r 70) d_23_23 fl_OF_82 (zb_0 I285) (zs_0 I285) (congrArg ov_r e284) ?_
        refine ov_putf (x := 70) d_23_26 fl_OF_78 (zb_0 I285) (zs_0 I285) rfl nk_2 rfl ?_
        have I290 := up_0_10 (x := 70) I285 (by omega) ((ov_kwu hw) 0 (by decide +kernel))
        refine ov_blk (ls2 := [(0, ov_r 0), (1, ov_i v274), (2, ov_r 58)]) (st2 := [ov_r 58, ov_r 0]) (pc2 := 31) b_23_29_2 rfl rfl ?_
        refine ov_putf (x := 58) d_23_31 fl_OF_82 (zb_0 I290) (zs_0 I290) rfl nk_2 rfl ?_
        have I291 := up_0_11 (x := 58) I290 (by omega) ((ov_kwu hw) 0 (by decide +kernel))
        refine ov_blk (ls2 := [(0, ov_r 0), (1, ov_i v274), (2, ov_r 58)]) (st2 := [ov_r 0]) (pc2 := 35) b_23_34_1 rfl rfl ?_
        rcases rg_0_12 I285 with e292 | e292
        · skip
          refine ov_getf (v := ov_r 82) d_23_35 fl_OF_88 (zb_0 I291) (zs_0 I291) (congrArg ov_r e292) ?_
          refine ov_cV (as := []) (st := []) (d2 := d - 1) d_23_38 lk_OF_113 rfl (Nat.le_of_ble_eq_true rfl) (c := 10) (zb_82 I291) (zs_82 I291) ⟨by decide, rfl⟩ (by omega) (c_Walk_clear_82 (d - 1) (by omega) U (ov_I_ff (M := 34359738368) I291) (ov_kw_ff (ov_kws (ov_kwu hw) (by decide +kernel)) (by decide +kernel))) ?_
          rintro _ z294 h295 ⟨rfl, I296, f293⟩
          have I296k := I296
          have I296 := ov_I_fr I291 I296k
          have er297 : h295 35 = (ov_up (ov_up h276 0 10 70) 0 11 58) 35 := ov_ff_k I296k (Or.inl (by decide)) (by decide +kernel)
          have ek298 : h295 35 0 = (h276 35 0) := congrFun er297 0
          have ek299 : h295 35 1 = (h276 35 1) := congrFun er297 1
          have ek300 : h295 35 2 = (h276 35 2) := congrFun er297 2
          have ek301 : h295 35 3 = (h276 35 3) := congrFun er297 3
          show ov_R u d ov_m23 41 [(0, ov_r 0), (1, ov_i v274), (2, ov_r 58)] [] z294 h295 (P_OF_town_0_m f0 F z h)
          have f302 : (h295 36 7) = (h276 36 7) ∧ (h295 1 1) = (h276 1 1) ∧ (h295 90 2) = (h276 90 2) ∧ (h295 0 10) = 70 ∧ (h295 0 11) = 58 ∧ (h295 0 12) = (h276 0 12) ∧ (h295 0 13) = (h276 0 13) ∧ (h295 3 1) = (h276 3 1) ∧ (h295 36 8) = (h276 36 8) ∧ (h295 46 3) = (h276 46 3) ∧ (h295 46 4) = (h276 46 4) ∧ (h295 49 4) = (h276 49 4) ∧ (h295 49 5) = (h276 49 5) ∧ (h295 64 0) = (h276 64 0) ∧ (h295 76 0) = (h276 76 0) := f293
          clear f293
          have e303 : h295 0 10 = 70 := by omega
          have e304 : h295 0 11 = 58 := by omega
          have e305 : h295 0 12 = 82 := by omega
          refine ov_blk (ls2 := [(0, ov_r 0), (1, ov_i v274), (2, ov_r 58)]) (st2 := [ov_r 0]) (pc2 := 42) b_23_41_1 rfl rfl ?_
          refine ov_getf (v := ov_r 4) d_23_42 fl_OF_28 (zb_0 I296) (zs_0 I296) (congrArg ov_r (rg_0_2 I296)) ?_
          refine ov_cV (as := []) (st := []) (d2 := d - 1) d_23_45 lk_OF_114 rfl (Nat.le_of_ble_eq_true rfl) (c := 7) (zb_4 I296) (zs_4 I296) ⟨by decide, rfl⟩ (by omega) (c_State_clear_4 (d - 1) (by omega) U (ov_I_ff (M := 34359738368) I296) (ov_kw_ff (ov_kws (ov_kwu hw) (by decide +kernel)) (by decide +kernel))) ?_
          rintro _ z307 h308 ⟨rfl, I309, f306⟩
          have I309k := I309
          have I309 := ov_I_fr I296 I309k
          have er310 : h308 35 = h295 35 := ov_ff_k I309k (Or.inl (by decide)) (by decide +kernel)
          have ek311 : h308 35 0 = (h295 35 0) := congrFun er310 0
          have ek312 : h308 35 1 = (h295 35 1) := congrFun er310 1
          have ek313 : h308 35 2 = (h295 35 2) := congrFun er310 2
          have ek314 : h308 35 3 = (h295 35 3) := congrFun er310 3
          show ov_R u d ov_m23 48 [(0, ov_r 0), (1, ov_i v274), (2, ov_r 58)] [] z307 h308 (P_OF_town_0_m f0 F z h)
          have f315 : (h308 36 7) = (h295 36 7) ∧ (h308 1 1) = (h295 1 1) ∧ (h308 90 2) = (h295 90 2) ∧ (h308 0 10) = (h295 0 10) ∧ (h308 0 11) = (h295 0 11) ∧ (h308 0 12) = (h295 0 12) ∧ (h308 0 13) = (h295 0 13) ∧ (h308 3 1) = (h295 3 1) ∧ (h308 36 8) = (h295 36 8) ∧ (h308 46 3) = (h295 46 3) ∧ (h308 46 4) = (h295 46 4) ∧ (h308 49 4) = (h295 49 4) ∧ (h308 49 5) = (h295 49 5) ∧ (h308 64 0) = (h295 64 0) ∧ (h308 76 0) = (h295 76 0) := f306
          clear f306
          have e316 : h308 0 10 = 70 := by omega
          have e317 : h308 0 11 = 58 := by omega
          have e318 : h308 0 12 = 82 := by omega
          refine ov_blk (ls2 := [(0, ov_r 0), (1, ov_i v274), (2, ov_r 58)]) (st2 := [ov_r 0]) (pc2 := 49) b_23_48_1 rfl rfl ?_
          refine ov_getf (v := ov_r 9) d_23_49 fl_OF_35 (zb_0 I309) (zs_0 I309) (congrArg ov_r (rg_0_3 I309)) ?_
          refine ov_cV (as := []) (st := []) (d2 := d - 1) d_23_52 lk_OF_115 rfl (Nat.le_of_ble_eq_true rfl) (c := 3) (zb_9 I309) (zs_9 I309) ⟨by decide, rfl⟩ (by omega) (c_History_clear_9 (d - 1) (by omega) U (ov_I_ff (M := 34359738368) I309) (ov_kw_ff (ov_kws (ov_kwu hw) (by decide +kernel)) (by decide +kernel))) ?_
          rintro _ z320 h321 ⟨rfl, I322, f319⟩
          have I322k := I322
          have I322 := ov_I_fr I309 I322k
          have er323 : h321 35 = h308 35 := ov_ff_k I322k (Or.inl (by decide)) (by decide +kernel)
          have ek324 : h321 35 0 = (h308 35 0) := congrFun er323 0
          have ek325 : h321 35 1 = (h308 35 1) := congrFun er323 1
          have ek326 : h321 35 2 = (h308 35 2) := congrFun er323 2
          have ek327 : h321 35 3 = (h308 35 3) := congrFun er323 3
          show ov_R u d ov_m23 55 [(0, ov_r 0), (1, ov_i v274), (2, ov_r 58)] [] z320 h321 (P_OF_town_0_m f0 F z h)
          have f328 : (h321 36 7) = (h308 36 7) ∧ (h321 1 1) = (h308 1 1) ∧ (h321 90 2) = (h308 90 2) ∧ (h321 0 10) = (h308 0 10) ∧ (h321 0 11) = (h308 0 11) ∧ (h321 0 12) = (h308 0 12) ∧ (h321 0 13) = (h308 0 13) ∧ (h321 3 1) = (h308 3 1) ∧ (h321 36 8) = (h308 36 8) ∧ (h321 46 3) = (h308 46 3) ∧ (h321 46 4) = (h308 46 4) ∧ (h321 49 4) = (h308 49 4) ∧ (h321 49 5) = (h308 49 5) ∧ (h321 64 0) = (h308 64 0) ∧ (h321 76 0) = (h308 76 0) := f319
          clear f319
          have e329 : h321 0 10 = 70 := by omega
          have e330 : h321 0 11 = 58 := by omega
          have e331 : h321 0 12 = 82 := by omega
          refine ov_blk (ls2 := [(0, ov_r 0), (1, ov_i v274), (2, ov_r 58)]) (st2 := [ov_r 0]) (pc2 := 56) b_23_55_1 rfl rfl ?_
          refine ov_cV (as := []) (st := []) (d2 := d - 1) d_23_56 lk_OF_116 rfl (Nat.le_of_ble_eq_true rfl) (c := 0) (zb_0 I322) (zs_0 I322) ⟨by decide, rfl⟩ (by omega) (c_OF_forgetMarks_0_m (d - 1) (by omega) U I322 (ov_kws (ov_kwu hw) (by decide +kernel))) ?_
          rintro _ z333 h334 ⟨rfl, I335, f332⟩
          show ov_R u d ov_m23 59 [(0, ov_r 0), (1, ov_i v274), (2, ov_r 58)] [] z333 h334 (P_OF_town_0_m f0 F z h)
          have f336 : (h334 35 0) = 0 ∧ (h334 35 1) = 0 ∧ (h334 35 2) = 0 ∧ (h334 35 3) = 0 ∧ (h334 36 7) = (h321 36 7) ∧ (h334 1 1) = (h321 1 1) ∧ (h334 90 2) = (h321 90 2) ∧ (h334 0 10) = (h321 0 10) ∧ (h334 0 11) = (h321 0 11) ∧ (h334 0 12) = (h321 0 12) ∧ (h334 0 13) = (h321 0 13) ∧ (h334 3 1) = (h321 3 1) ∧ (h334 36 8) = (h321 36 8) ∧ (h334 46 3) = (h321 46 3) ∧ (h334 46 4) = (h321 46 4) ∧ (h334 49 4) = (h321 49 4) ∧ (h334 49 5) = (h321 49 5) ∧ (h334 64 0) = (h321 64 0) ∧ (h334 76 0) = (h321 76 0) := f332
          clear f332
          have e337 : h334 0 10 = 70 := by omega
          have e338 : h334 0 11 = 58 := by omega
          have e339 : h334 0 12 = 82 := by omega
          refine ov_blk (ls2 := [(0, ov_r 0), (1, ov_i v274), (2, ov_r 58)]) (st2 := [ov_r 0]) (pc2 := 60) b_23_59_1 rfl rfl ?_
          refine ov_cV (as := []) (st := []) (d2 := d - 1) d_23_60 lk_OF_119 rfl (Nat.le_of_ble_eq_true rfl) (c := 0) (zb_0 I335) (zs_0 I335) ⟨by decide, rfl⟩ (by omega) (c_OF_forgetReckonings_0 (d - 1) (by omega) U (ov_I_ff (M := 34359738368) I335)) ?_
          rintro _ z341 h342 ⟨rfl, I343, f340⟩
          have I343k := I343
          have I343 := ov_I_fr I335 I343k
          have er344 : h342 35 = h334 35 := ov_ff_k I343k (Or.inl (by decide)) (by decide +kernel)
          have ek345 : h342 35 0 = (h334 35 0) := congrFun er344 0
          have ek346 : h342 35 1 = (h334 35 1) := congrFun er344 1
          have ek347 : h342 35 2 = (h334 35 2) := congrFun er344 2
          have ek348 : h342 35 3 = (h334 35 3) := congrFun er344 3
          show ov_R u d ov_m23 63 [(0, ov_r 0), (1, ov_i v274), (2, ov_r 58)] [] z341 h342 (P_OF_town_0_m f0 F z h)
          have f349 : (h342 36 7) = 0 ∧ (h342 1 1) = (h334 1 1) ∧ (h342 90 2) = (h334 90 2) ∧ (h342 0 10) = (h334 0 10) ∧ (h342 0 11) = (h334 0 11) ∧ (h342 0 12) = (h334 0 12) ∧ (h342 0 13) = (h334 0 13) ∧ (h342 3 1) = (h334 3 1) ∧ (h342 36 8) = (h334 36 8) ∧ (h342 46 3) = (h334 46 3) ∧ (h342 46 4) = (h334 46 4) ∧ (h342 49 4) = (h334 49 4) ∧ (h342 49 5) = (h334 49 5) ∧ (h342 64 0) = (h334 64 0) ∧ (h342 76 0) = (h334 76 0) := f340
          clear f340
          have e350 : h342 0 10 = 70 := by omega
          have e351 : h342 0 11 = 58 := by omega
          have e352 : h342 0 12 = 82 := by omega
          refine ov_blk (ls2 := [(0, ov_r 0), (1, ov_i v274), (2, ov_r 58)]) (st2 := [ov_i v274]) (pc2 := 64) b_23_63_1 rfl rfl ?_
          have gf353 : 1 ≤ (h342 70 0) ∧ 1 ≤ (h342 70 1) := ov_I_fg (h := h342) (T := 70) (by omega) I343
          have gk : F (-5) 58 = 1 := by omega
          have gf354 : 1 ≤ (h342 58 0) ∧ 1 ≤ (h342 58 1) := ov_I_fk (h := h342) (S := 58) (by omega) I343 gk
          exact ov_reti (st := []) d_23_64 rfl ⟨_, rfl, (ov_I_fd I343), (by show (h342 1 1) = 0 ∧ ((h342 36 7) = 1 → (h342 36 8) = (h342 0 10)) ∧ ((h342 0 10) = 58 ∧ (h342 0 11) = 70 ∧ 0 ≤ (h342 64 0) ∧ 1 ≤ (h342 58 0) ∧ 1 ≤ (h342 58 1) ∨ (h342 0 10) = 70 ∧ (h342 0 11) = 58 ∧ 0 ≤ (h342 76 0) ∧ 1 ≤ (h342 70 0) ∧ 1 ≤ (h342 70 1)) ∧ v274 = f0 ∧ (v274 = 0 → (h342 35 0) = 0) ∧ (¬ v274 = 0 → (h342 35 0) = (h 35 0)) ∧ (v274 = 0 → (h342 35 1) = 0) ∧ (¬ v274 = 0 → (h342 35 1) = (h 35 1)) ∧ (v274 = 0 → (h342 35 2) = 0) ∧ (¬ v274 = 0 → (h342 35 2) = (h 35 2)) ∧ (v274 = 0 → (h342 35 3) = 0) ∧ (¬ v274 = 0 → (h342 35 3) = (h 35 3)) ∧ (h342 90 2) = (h 90 2) ∧ (h342 0 12) = (h 0 12) ∧ (h342 0 13) = (h 0 13) ∧ (h342 46 3) = (h 46 3) ∧ (h342 46 4) = (h 46 4) ∧ (h342 49 4) = (h 49 4) ∧ (h342 49 5) = (h 49 5); omega)⟩
        · skip
          refine ov_getf (v := ov_r 86) d_23_35 fl_OF_88 (zb_0 I291) (zs_0 I291) (congrArg ov_r e292) ?_
          refine ov_cV (as := []) (st := []) (d2 := d - 1) d_23_38 lk_OF_113 rfl (Nat.le_of_ble_eq_true rfl) (c := 10) (zb_86 I291) (zs_86 I291) ⟨by decide, rfl⟩ (by omega) (c_Walk_clear_86 (d - 1) (by omega) U (ov_I_ff (M := 34359738368) I291) (ov_kw_ff (ov_kws (ov_kwu hw) (by decide +kernel)) (by decide +kernel))) ?_
          rintro _ z356 h357 ⟨rfl, I358, f355⟩
          have I358k := I358
          have I358 := ov_I_fr I291 I358k
          have er359 : h357 35 = (ov_up (ov_up h276 0 10 70) 0 11 58) 35 := ov_ff_k I358k (Or.inl (by decide)) (by decide +kernel)
          have ek360 : h357 35 0 = (h276 35 0) := congrFun er359 0
          have ek361 : h357 35 1 = (h276 35 1) := congrFun er359 1
          have ek362 : h357 35 2 = (h276 35 2) := congrFun er359 2
          have ek363 : h357 35 3 = (h276 35 3) := congrFun er359 3
          show ov_R u d ov_m23 41 [(0, ov_r 0), (1, ov_i v274), (2, ov_r 58)] [] z356 h357 (P_OF_town_0_m f0 F z h)
          have f364 : (h357 36 7) = (h276 36 7) ∧ (h357 1 1) = (h276 1 1) ∧ (h357 90 2) = (h276 90 2) ∧ (h357 0 10) = 70 ∧ (h357 0 11) = 58 ∧ (h357 0 12) = (h276 0 12) ∧ (h357 0 13) = (h276 0 13) ∧ (h357 3 1) = (h276 3 1) ∧ (h357 36 8) = (h276 36 8) ∧ (h357 46 3) = (h276 46 3) ∧ (h357 46 4) = (h276 46 4) ∧ (h357 49 4) = (h276 49 4) ∧ (h357 49 5) = (h276 49 5) ∧ (h357 64 0) = (h276 64 0) ∧ (h357 76 0) = (h276 76 0) := f355
          clear f355
          have e365 : h357 0 10 = 70 := by omega
          have e366 : h357 0 11 = 58 := by omega
          have e367 : h357 0 12 = 86 := by omega
          refine ov_blk (ls2 := [(0, ov_r 0), (1, ov_i v274), (2, ov_r 58)]) (st2 := [ov_r 0]) (pc2 := 42) b_23_41_1 rfl rfl ?_
          refine ov_getf (v := ov_r 4) d_23_42 fl_OF_28 (zb_0 I358) (zs_0 I358) (congrArg ov_r (rg_0_2 I358)) ?_
          refine ov_cV (as := []) (st := []) (d2 := d - 1) d_23_45 lk_OF_114 rfl (Nat.le_of_ble_eq_true rfl) (c := 7) (zb_4 I358) (zs_4 I358) ⟨by decide, rfl⟩ (by omega) (c_State_clear_4 (d - 1) (by omega) U (ov_I_ff (M := 34359738368) I358) (ov_kw_ff (ov_kws (ov_kwu hw) (by decide +kernel)) (by decide +kernel))) ?_
          rintro _ z369 h370 ⟨rfl, I371, f368⟩
          have I371k := I371
          have I371 := ov_I_fr I358 I371k
          have er372 : h370 35 = h357 35 := ov_ff_k I371k (Or.inl (by decide)) (by decide +kernel)
          have ek373 : h370 35 0 = (h357 35 0) := congrFun er372 0
          have ek374 : h370 35 1 = (h357 35 1) := congrFun er372 1
          have ek375 : h370 35 2 = (h357 35 2) := congrFun er372 2
          have ek376 : h370 35 3 = (h357 35 3) := congrFun er372 3
          show ov_R u d ov_m23 48 [(0, ov_r 0), (1, ov_i v274), (2, ov_r 58)] [] z369 h370 (P_OF_town_0_m f0 F z h)
          have f377 : (h370 36 7) = (h357 36 7) ∧ (h370 1 1) = (h357 1 1) ∧ (h370 90 2) = (h357 90 2) ∧ (h370 0 10) = (h357 0 10) ∧ (h370 0 11) = (h357 0 11) ∧ (h370 0 12) = (h357 0 12) ∧ (h370 0 13) = (h357 0 13) ∧ (h370 3 1) = (h357 3 1) ∧ (h370 36 8) = (h357 36 8) ∧ (h370 46 3) = (h357 46 3) ∧ (h370 46 4) = (h357 46 4) ∧ (h370 49 4) = (h357 49 4) ∧ (h370 49 5) = (h357 49 5) ∧ (h370 64 0) = (h357 64 0) ∧ (h370 76 0) = (h357 76 0) := f368
          clear f368
          have e378 : h370 0 10 = 70 := by omega
          have e379 : h370 0 11 = 58 := by omega
          have e380 : h370 0 12 = 86 := by omega
          refine ov_blk (ls2 := [(0, ov_r 0), (1, ov_i v274), (2, ov_r 58)]) (st2 := [ov_r 0]) (pc2 := 49) b_23_48_1 rfl rfl ?_
          refine ov_getf (v := ov_r 9) d_23_49 fl_OF_35 (zb_0 I371) (zs_0 I371) (congrArg ov_r (rg_0_3 I371)) ?_
          refine ov_cV (as := []) (st := []) (d2 := d - 1) d_23_52 lk_OF_115 rfl (Nat.le_of_ble_eq_true rfl) (c := 3) (zb_9 I371) (zs_9 I371) ⟨by decide, rfl⟩ (by omega) (c_History_clear_9 (d - 1) (by omega) U (ov_I_ff (M := 34359738368) I371) (ov_kw_ff (ov_kws (ov_kwu hw) (by decide +kernel)) (by decide +kernel))) ?_
          rintro _ z382 h383 ⟨rfl, I384, f381⟩
          have I384k := I384
          have I384 := ov_I_fr I371 I384k
          have er385 : h383 35 = h370 35 := ov_ff_k I384k (Or.inl (by decide)) (by decide +kernel)
          have ek386 : h383 35 0 = (h370 35 0) := congrFun er385 0
          have ek387 : h383 35 1 = (h370 35 1) := congrFun er385 1
          have ek388 : h383 35 2 = (h370 35 2) := congrFun er385 2
          have ek389 : h383 35 3 = (h370 35 3) := congrFun er385 3
          show ov_R u d ov_m23 55 [(0, ov_r 0), (1, ov_i v274), (2, ov_r 58)] [] z382 h383 (P_OF_town_0_m f0 F z h)
          have f390 : (h383 36 7) = (h370 36 7) ∧ (h383 1 1) = (h370 1 1) ∧ (h383 90 2) = (h370 90 2) ∧ (h383 0 10) = (h370 0 10) ∧ (h383 0 11) = (h370 0 11) ∧ (h383 0 12) = (h370 0 12) ∧ (h383 0 13) = (h370 0 13) ∧ (h383 3 1) = (h370 3 1) ∧ (h383 36 8) = (h370 36 8) ∧ (h383 46 3) = (h370 46 3) ∧ (h383 46 4) = (h370 46 4) ∧ (h383 49 4) = (h370 49 4) ∧ (h383 49 5) = (h370 49 5) ∧ (h383 64 0) = (h370 64 0) ∧ (h383 76 0) = (h370 76 0) := f381
          clear f381
          have e391 : h383 0 10 = 70 := by omega
          have e392 : h383 0 11 = 58 := by omega
          have e393 : h383 0 12 = 86 := by omega
          refine ov_blk (ls2 := [(0, ov_r 0), (1, ov_i v274), (2, ov_r 58)]) (st2 := [ov_r 0]) (pc2 := 56) b_23_55_1 rfl rfl ?_
          refine ov_cV (as := []) (st := []) (d2 := d - 1) d_23_56 lk_OF_116 rfl (Nat.le_of_ble_eq_true rfl) (c := 0) (zb_0 I384) (zs_0 I384) ⟨by decide, rfl⟩ (by omega) (c_OF_forgetMarks_0_m (d - 1) (by omega) U I384 (ov_kws (ov_kwu hw) (by decide +kernel))) ?_
          rintro _ z395 h396 ⟨rfl, I397, f394⟩
          show ov_R u d ov_m23 59 [(0, ov_r 0), (1, ov_i v274), (2, ov_r 58)] [] z395 h396 (P_OF_town_0_m f0 F z h)
          have f398 : (h396 35 0) = 0 ∧ (h396 35 1) = 0 ∧ (h396 35 2) = 0 ∧ (h396 35 3) = 0 ∧ (h396 36 7) = (h383 36 7) ∧ (h396 1 1) = (h383 1 1) ∧ (h396 90 2) = (h383 90 2) ∧ (h396 0 10) = (h383 0 10) ∧ (h396 0 11) = (h383 0 11) ∧ (h396 0 12) = (h383 0 12) ∧ (h396 0 13) = (h383 0 13) ∧ (h396 3 1) = (h383 3 1) ∧ (h396 36 8) = (h383 36 8) ∧ (h396 46 3) = (h383 46 3) ∧ (h396 46 4) = (h383 46 4) ∧ (h396 49 4) = (h383 49 4) ∧ (h396 49 5) = (h383 49 5) ∧ (h396 64 0) = (h383 64 0) ∧ (h396 76 0) = (h383 76 0) := f394
          clear f394
          have e399 : h396 0 10 = 70 := by omega
          have e400 : h396 0 11 = 58 := by omega
          have e401 : h396 0 12 = 86 := by omega
          refine ov_blk (ls2 := [(0, ov_r 0), (1, ov_i v274), (2, ov_r 58)]) (st2 := [ov_r 0]) (pc2 := 60) b_23_59_1 rfl rfl ?_
          refine ov_cV (as := []) (st := []) (d2 := d - 1) d_23_60 lk_OF_119 rfl (Nat.le_of_ble_eq_true rfl) (c := 0) (zb_0 I397) (zs_0 I397) ⟨by decide, rfl⟩ (by omega) (c_OF_forgetReckonings_0 (d - 1) (by omega) U (ov_I_ff (M := 34359738368) I397)) ?_
          rintro _ z403 h404 ⟨rfl, I405, f402⟩
          have I405k := I405
          have I405 := ov_I_fr I397 I405k
          have er406 : h404 35 = h396 35 := ov_ff_k I405k (Or.inl (by decide)) (by decide +kernel)
          have ek407 : h404 35 0 = (h396 35 0) := congrFun er406 0
          have ek408 : h404 35 1 = (h396 35 1) := congrFun er406 1
          have ek409 : h404 35 2 = (h396 35 2) := congrFun er406 2
          have ek410 : h404 35 3 = (h396 35 3) := congrFun er406 3
          show ov_R u d ov_m23 63 [(0, ov_r 0), (1, ov_i v274), (2, ov_r 58)] [] z403 h404 (P_OF_town_0_m f0 F z h)
          have f411 : (h404 36 7) = 0 ∧ (h404 1 1) = (h396 1 1) ∧ (h404 90 2) = (h396 90 2) ∧ (h404 0 10) = (h396 0 10) ∧ (h404 0 11) = (h396 0 11) ∧ (h404 0 12) = (h396 0 12) ∧ (h404 0 13) = (h396 0 13) ∧ (h404 3 1) = (h396 3 1) ∧ (h404 36 8) = (h396 36 8) ∧ (h404 46 3) = (h396 46 3) ∧ (h404 46 4) = (h396 46 4) ∧ (h404 49 4) = (h396 49 4) ∧ (h404 49 5) = (h396 49 5) ∧ (h404 64 0) = (h396 64 0) ∧ (h404 76 0) = (h396 76 0) := f402
          clear f402
          have e412 : h404 0 10 = 70 := by omega
          have e413 : h404 0 11 = 58 := by omega
          have e414 : h404 0 12 = 86 := by omega
          refine ov_blk (ls2 := [(0, ov_r 0), (1, ov_i v274), (2, ov_r 58)]) (st2 := [ov_i v274]) (pc2 := 64) b_23_63_1 rfl rfl ?_
          have gf415 : 1 ≤ (h404 70 0) ∧ 1 ≤ (h404 70 1) := ov_I_fg (h := h404) (T := 70) (by omega) I405
          have gk : F (-5) 58 = 1 := by omega
          have gf416 : 1 ≤ (h404 58 0) ∧ 1 ≤ (h404 58 1) := ov_I_fk (h := h404) (S := 58) (by omega) I405 gk
          exact ov_reti (st := []) d_23_64 rfl ⟨_, rfl, (ov_I_fd I405), (by show (h404 1 1) = 0 ∧ ((h404 36 7) = 1 → (h404 36 8) = (h404 0 10)) ∧ ((h404 0 10) = 58 ∧ (h404 0 11) = 70 ∧ 0 ≤ (h404 64 0) ∧ 1 ≤ (h404 58 0) ∧ 1 ≤ (h404 58 1) ∨ (h404 0 10) = 70 ∧ (h404 0 11) = 58 ∧ 0 ≤ (h404 76 0) ∧ 1 ≤ (h404 70 0) ∧ 1 ≤ (h404 70 1)) ∧ v274 = f0 ∧ (v274 = 0 → (h404 35 0) = 0) ∧ (¬ v274 = 0 → (h404 35 0) = (h 35 0)) ∧ (v274 = 0 → (h404 35 1) = 0) ∧ (¬ v274 = 0 → (h404 35 1) = (h 35 1)) ∧ (v274 = 0 → (h404 35 2) = 0) ∧ (¬ v274 = 0 → (h404 35 2) = (h 35 2)) ∧ (v274 = 0 → (h404 35 3) = 0) ∧ (¬ v274 = 0 → (h404 35 3) = (h 35 3)) ∧ (h404 90 2) = (h 90 2) ∧ (h404 0 12) = (h 0 12) ∧ (h404 0 13) = (h 0 13) ∧ (h404 46 3) = (h 46 3) ∧ (h404 46 4) = (h 46 4) ∧ (h404 49 4) = (h 49 4) ∧ (h404 49 5) = (h 49 5); omega)⟩
      · skip
        refine ov_getf (v := ov_r 70) d_23_17 fl_OF_78 (zb_0 I285) (zs_0 I285) (congrArg ov_r e289) ?_
        refine ov_blk (ls2 := [(0, ov_r 0), (1, ov_i v274), (2, ov_r 70)]) (st2 := [ov_r 0, ov_r 0]) (pc2 := 23) b_23_20_3 rfl rfl ?_
        refine ov_getf (v := ov_r 70) d_23_23 fl_OF_82 (zb_0 I285) (zs_0 I285) (congrArg ov_r e284) ?_
        refine ov_putf (x := 70) d_23_26 fl_OF_78 (zb_0 I285) (zs_0 I285) rfl nk_2 rfl ?_
        have I417 := up_0_10 (x := 70) I285 (by omega) ((ov_kwu hw) 0 (by decide +kernel))
        refine ov_blk (ls2 := [(0, ov_r 0), (1, ov_i v274), (2, ov_r 70)]) (st2 := [ov_r 70, ov_r 0]) (pc2 := 31) b_23_29_2 rfl rfl ?_
        refine ov_putf (x := 70) d_23_31 fl_OF_82 (zb_0 I417) (zs_0 I417) rfl nk_2 rfl ?_
        have I418 := up_0_11 (x := 70) I417 (by omega) ((ov_kwu hw) 0 (by decide +kernel))
        refine ov_blk (ls2 := [(0, ov_r 0), (1, ov_i v274), (2, ov_r 70)]) (st2 := [ov_r 0]) (pc2 := 35) b_23_34_1 rfl rfl ?_
        rcases rg_0_12 I285 with e419 | e419
        · skip
          refine ov_getf (v := ov_r 82) d_23_35 fl_OF_88 (zb_0 I418) (zs_0 I418) (congrArg ov_r e419) ?_
          refine ov_cV (as := []) (st := []) (d2 := d - 1) d_23_38 lk_OF_113 rfl (Nat.le_of_ble_eq_true rfl) (c := 10) (zb_82 I418) (zs_82 I418) ⟨by decide, rfl⟩ (by omega) (c_Walk_clear_82 (d - 1) (by omega) U (ov_I_ff (M := 34359738368) I418) (ov_kw_ff (ov_kws (ov_kwu hw) (by decide +kernel)) (by decide +kernel))) ?_
          rintro _ z421 h422 ⟨rfl, I423, f420⟩
          have I423k := I423
          have I423 := ov_I_fr I418 I423k
          have er424 : h422 35 = (ov_up (ov_up h276 0 10 70) 0 11 70) 35 := ov_ff_k I423k (Or.inl (by decide)) (by decide +kernel)
          have ek425 : h422 35 0 = (h276 35 0) := congrFun er424 0
          have ek426 : h422 35 1 = (h276 35 1) := congrFun er424 1
          have ek427 : h422 35 2 = (h276 35 2) := congrFun er424 2
          have ek428 : h422 35 3 = (h276 35 3) := congrFun er424 3
          show ov_R u d ov_m23 41 [(0, ov_r 0), (1, ov_i v274), (2, ov_r 70)] [] z421 h422 (P_OF_town_0_m f0 F z h)
          have f429 : (h422 36 7) = (h276 36 7) ∧ (h422 1 1) = (h276 1 1) ∧ (h422 90 2) = (h276 90 2) ∧ (h422 0 10) = 70 ∧ (h422 0 11) = 70 ∧ (h422 0 12) = (h276 0 12) ∧ (h422 0 13) = (h276 0 13) ∧ (h422 3 1) = (h276 3 1) ∧ (h422 36 8) = (h276 36 8) ∧ (h422 46 3) = (h276 46 3) ∧ (h422 46 4) = (h276 46 4) ∧ (h422 49 4) = (h276 49 4) ∧ (h422 49 5) = (h276 49 5) ∧ (h422 64 0) = (h276 64 0) ∧ (h422 76 0) = (h276 76 0) := f420
          clear f420
          have e430 : h422 0 10 = 70 := by omega
          have e431 : h422 0 11 = 70 := by omega
          have e432 : h422 0 12 = 82 := by omega
          refine ov_blk (ls2 := [(0, ov_r 0), (1, ov_i v274), (2, ov_r 70)]) (st2 := [ov_r 0]) (pc2 := 42) b_23_41_1 rfl rfl ?_
          refine ov_getf (v := ov_r 4) d_23_42 fl_OF_28 (zb_0 I423) (zs_0 I423) (congrArg ov_r (rg_0_2 I423)) ?_
          refine ov_cV (as := []) (st := []) (d2 := d - 1) d_23_45 lk_OF_114 rfl (Nat.le_of_ble_eq_true rfl) (c := 7) (zb_4 I423) (zs_4 I423) ⟨by decide, rfl⟩ (by omega) (c_State_clear_4 (d - 1) (by omega) U (ov_I_ff (M := 34359738368) I423) (ov_kw_ff (ov_kws (ov_kwu hw) (by decide +kernel)) (by decide +kernel))) ?_
          rintro _ z434 h435 ⟨rfl, I436, f433⟩
          have I436k := I436
          have I436 := ov_I_fr I423 I436k
          have er437 : h435 35 = h422 35 := ov_ff_k I436k (Or.inl (by decide)) (by decide +kernel)
          have ek438 : h435 35 0 = (h422 35 0) := congrFun er437 0
          have ek439 : h435 35 1 = (h422 35 1) := congrFun er437 1
          have ek440 : h435 35 2 = (h422 35 2) := congrFun er437 2
          have ek441 : h435 35 3 = (h422 35 3) := congrFun er437 3
          show ov_R u d ov_m23 48 [(0, ov_r 0), (1, ov_i v274), (2, ov_r 70)] [] z434 h435 (P_OF_town_0_m f0 F z h)
          have f442 : (h435 36 7) = (h422 36 7) ∧ (h435 1 1) = (h422 1 1) ∧ (h435 90 2) = (h422 90 2) ∧ (h435 0 10) = (h422 0 10) ∧ (h435 0 11) = (h422 0 11) ∧ (h435 0 12) = (h422 0 12) ∧ (h435 0 13) = (h422 0 13) ∧ (h435 3 1) = (h422 3 1) ∧ (h435 36 8) = (h422 36 8) ∧ (h435 46 3) = (h422 46 3) ∧ (h435 46 4) = (h422 46 4) ∧ (h435 49 4) = (h422 49 4) ∧ (h435 49 5) = (h422 49 5) ∧ (h435 64 0) = (h422 64 0) ∧ (h435 76 0) = (h422 76 0) := f433
          clear f433
          have e443 : h435 0 10 = 70 := by omega
          have e444 : h435 0 11 = 70 := by omega
          have e445 : h435 0 12 = 82 := by omega
          refine ov_blk (ls2 := [(0, ov_r 0), (1, ov_i v274), (2, ov_r 70)]) (st2 := [ov_r 0]) (pc2 := 49) b_23_48_1 rfl rfl ?_
          refine ov_getf (v := ov_r 9) d_23_49 fl_OF_35 (zb_0 I436) (zs_0 I436) (congrArg ov_r (rg_0_3 I436)) ?_
          refine ov_cV (as := []) (st := []) (d2 := d - 1) d_23_52 lk_OF_115 rfl (Nat.le_of_ble_eq_true rfl) (c := 3) (zb_9 I436) (zs_9 I436) ⟨by decide, rfl⟩ (by omega) (c_History_clear_9 (d - 1) (by omega) U (ov_I_ff (M := 34359738368) I436) (ov_kw_ff (ov_kws (ov_kwu hw) (by decide +kernel)) (by decide +kernel))) ?_
          rintro _ z447 h448 ⟨rfl, I449, f446⟩
          have I449k := I449
          have I449 := ov_I_fr I436 I449k
          have er450 : h448 35 = h435 35 := ov_ff_k I449k (Or.inl (by decide)) (by decide +kernel)
          have ek451 : h448 35 0 = (h435 35 0) := congrFun er450 0
          have ek452 : h448 35 1 = (h435 35 1) := congrFun er450 1
          have ek453 : h448 35 2 = (h435 35 2) := congrFun er450 2
          have ek454 : h448 35 3 = (h435 35 3) := congrFun er450 3
          show ov_R u d ov_m23 55 [(0, ov_r 0), (1, ov_i v274), (2, ov_r 70)] [] z447 h448 (P_OF_town_0_m f0 F z h)
          have f455 : (h448 36 7) = (h435 36 7) ∧ (h448 1 1) = (h435 1 1) ∧ (h448 90 2) = (h435 90 2) ∧ (h448 0 10) = (h435 0 10) ∧ (h448 0 11) = (h435 0 11) ∧ (h448 0 12) = (h435 0 12) ∧ (h448 0 13) = (h435 0 13) ∧ (h448 3 1) = (h435 3 1) ∧ (h448 36 8) = (h435 36 8) ∧ (h448 46 3) = (h435 46 3) ∧ (h448 46 4) = (h435 46 4) ∧ (h448 49 4) = (h435 49 4) ∧ (h448 49 5) = (h435 49 5) ∧ (h448 64 0) = (h435 64 0) ∧ (h448 76 0) = (h435 76 0) := f446
          clear f446
          have e456 : h448 0 10 = 70 := by omega
          have e457 : h448 0 11 = 70 := by omega
          have e458 : h448 0 12 = 82 := by omega
          refine ov_blk (ls2 := [(0, ov_r 0), (1, ov_i v274), (2, ov_r 70)]) (st2 := [ov_r 0]) (pc2 := 56) b_23_55_1 rfl rfl ?_
          refine ov_cV (as := []) (st := []) (d2 := d - 1) d_23_56 lk_OF_116 rfl (Nat.le_of_ble_eq_true rfl) (c := 0) (zb_0 I449) (zs_0 I449) ⟨by decide, rfl⟩ (by omega) (c_OF_forgetMarks_0_m (d - 1) (by omega) U I449 (ov_kws (ov_kwu hw) (by decide +kernel))) ?_
          rintro _ z460 h461 ⟨rfl, I462, f459⟩
          show ov_R u d ov_m23 59 [(0, ov_r 0), (1, ov_i v274), (2, ov_r 70)] [] z460 h461 (P_OF_town_0_m f0 F z h)
          have f463 : (h461 35 0) = 0 ∧ (h461 35 1) = 0 ∧ (h461 35 2) = 0 ∧ (h461 35 3) = 0 ∧ (h461 36 7) = (h448 36 7) ∧ (h461 1 1) = (h448 1 1) ∧ (h461 90 2) = (h448 90 2) ∧ (h461 0 10) = (h448 0 10) ∧ (h461 0 11) = (h448 0 11) ∧ (h461 0 12) = (h448 0 12) ∧ (h461 0 13) = (h448 0 13) ∧ (h461 3 1) = (h448 3 1) ∧ (h461 36 8) = (h448 36 8) ∧ (h461 46 3) = (h448 46 3) ∧ (h461 46 4) = (h448 46 4) ∧ (h461 49 4) = (h448 49 4) ∧ (h461 49 5) = (h448 49 5) ∧ (h461 64 0) = (h448 64 0) ∧ (h461 76 0) = (h448 76 0) := f459
          clear f459
          have e464 : h461 0 10 = 70 := by omega
          have e465 : h461 0 11 = 70 := by omega
          have e466 : h461 0 12 = 82 := by omega
          refine ov_blk (ls2 := [(0, ov_r 0), (1, ov_i v274), (2, ov_r 70)]) (st2 := [ov_r 0]) (pc2 := 60) b_23_59_1 rfl rfl ?_
          refine ov_cV (as := []) (st := []) (d2 := d - 1) d_23_60 lk_OF_119 rfl (Nat.le_of_ble_eq_true rfl) (c := 0) (zb_0 I462) (zs_0 I462) ⟨by decide, rfl⟩ (by omega) (c_OF_forgetReckonings_0 (d - 1) (by omega) U (ov_I_ff (M := 34359738368) I462)) ?_
          rintro _ z468 h469 ⟨rfl, I470, f467⟩
          have I470k := I470
          have I470 := ov_I_fr I462 I470k
          have er471 : h469 35 = h461 35 := ov_ff_k I470k (Or.inl (by decide)) (by decide +kernel)
          have ek472 : h469 35 0 = (h461 35 0) := congrFun er471 0
          have ek473 : h469 35 1 = (h461 35 1) := congrFun er471 1
          have ek474 : h469 35 2 = (h461 35 2) := congrFun er471 2
          have ek475 : h469 35 3 = (h461 35 3) := congrFun er471 3
          show ov_R u d ov_m23 63 [(0, ov_r 0), (1, ov_i v274), (2, ov_r 70)] [] z468 h469 (P_OF_town_0_m f0 F z h)
          have f476 : (h469 36 7) = 0 ∧ (h469 1 1) = (h461 1 1) ∧ (h469 90 2) = (h461 90 2) ∧ (h469 0 10) = (h461 0 10) ∧ (h469 0 11) = (h461 0 11) ∧ (h469 0 12) = (h461 0 12) ∧ (h469 0 13) = (h461 0 13) ∧ (h469 3 1) = (h461 3 1) ∧ (h469 36 8) = (h461 36 8) ∧ (h469 46 3) = (h461 46 3) ∧ (h469 46 4) = (h461 46 4) ∧ (h469 49 4) = (h461 49 4) ∧ (h469 49 5) = (h461 49 5) ∧ (h469 64 0) = (h461 64 0) ∧ (h469 76 0) = (h461 76 0) := f467
          clear f467
          have e477 : h469 0 10 = 70 := by omega
          have e478 : h469 0 11 = 70 := by omega
          have e479 : h469 0 12 = 82 := by omega
          refine ov_blk (ls2 := [(0, ov_r 0), (1, ov_i v274), (2, ov_r 70)]) (st2 := [ov_i v274]) (pc2 := 64) b_23_63_1 rfl rfl ?_
          have gf480 : 1 ≤ (h469 70 0) ∧ 1 ≤ (h469 70 1) := ov_I_fg (h := h469) (T := 70) (by omega) I470
          have gk : F (-5) 58 = 1 := by omega
          have gf481 : 1 ≤ (h469 58 0) ∧ 1 ≤ (h469 58 1) := ov_I_fk (h := h469) (S := 58) (by omega) I470 gk
          exact ov_reti (st := []) d_23_64 rfl ⟨_, rfl, (ov_I_fd I470), (by show (h469 1 1) = 0 ∧ ((h469 36 7) = 1 → (h469 36 8) = (h469 0 10)) ∧ ((h469 0 10) = 58 ∧ (h469 0 11) = 70 ∧ 0 ≤ (h469 64 0) ∧ 1 ≤ (h469 58 0) ∧ 1 ≤ (h469 58 1) ∨ (h469 0 10) = 70 ∧ (h469 0 11) = 58 ∧ 0 ≤ (h469 76 0) ∧ 1 ≤ (h469 70 0) ∧ 1 ≤ (h469 70 1)) ∧ v274 = f0 ∧ (v274 = 0 → (h469 35 0) = 0) ∧ (¬ v274 = 0 → (h469 35 0) = (h 35 0)) ∧ (v274 = 0 → (h469 35 1) = 0) ∧ (¬ v274 = 0 → (h469 35 1) = (h 35 1)) ∧ (v274 = 0 → (h469 35 2) = 0) ∧ (¬ v274 = 0 → (h469 35 2) = (h 35 2)) ∧ (v274 = 0 → (h469 35 3) = 0) ∧ (¬ v274 = 0 → (h469 35 3) = (h 35 3)) ∧ (h469 90 2) = (h 90 2) ∧ (h469 0 12) = (h 0 12) ∧ (h469 0 13) = (h 0 13) ∧ (h469 46 3) = (h 46 3) ∧ (h469 46 4) = (h 46 4) ∧ (h469 49 4) = (h 49 4) ∧ (h469 49 5) = (h 49 5); omega)⟩
        · skip
          refine ov_getf (v := ov_r 86) d_23_35 fl_OF_88 (zb_0 I418) (zs_0 I418) (congrArg ov_r e419) ?_
          refine ov_cV (as := []) (st := []) (d2 := d - 1) d_23_38 lk_OF_113 rfl (Nat.le_of_ble_eq_true rfl) (c := 10) (zb_86 I418) (zs_86 I418) ⟨by decide, rfl⟩ (by omega) (c_Walk_clear_86 (d - 1) (by omega) U (ov_I_ff (M := 34359738368) I418) (ov_kw_ff (ov_kws (ov_kwu hw) (by decide +kernel)) (by decide +kernel))) ?_
          rintro _ z483 h484 ⟨rfl, I485, f482⟩
          have I485k := I485
          have I485 := ov_I_fr I418 I485k
          have er486 : h484 35 = (ov_up (ov_up h276 0 10 70) 0 11 70) 35 := ov_ff_k I485k (Or.inl (by decide)) (by decide +kernel)
          have ek487 : h484 35 0 = (h276 35 0) := congrFun er486 0
          have ek488 : h484 35 1 = (h276 35 1) := congrFun er486 1
          have ek489 : h484 35 2 = (h276 35 2) := congrFun er486 2
          have ek490 : h484 35 3 = (h276 35 3) := congrFun er486 3
          show ov_R u d ov_m23 41 [(0, ov_r 0), (1, ov_i v274), (2, ov_r 70)] [] z483 h484 (P_OF_town_0_m f0 F z h)
          have f491 : (h484 36 7) = (h276 36 7) ∧ (h484 1 1) = (h276 1 1) ∧ (h484 90 2) = (h276 90 2) ∧ (h484 0 10) = 70 ∧ (h484 0 11) = 70 ∧ (h484 0 12) = (h276 0 12) ∧ (h484 0 13) = (h276 0 13) ∧ (h484 3 1) = (h276 3 1) ∧ (h484 36 8) = (h276 36 8) ∧ (h484 46 3) = (h276 46 3) ∧ (h484 46 4) = (h276 46 4) ∧ (h484 49 4) = (h276 49 4) ∧ (h484 49 5) = (h276 49 5) ∧ (h484 64 0) = (h276 64 0) ∧ (h484 76 0) = (h276 76 0) := f482
          clear f482
          have e492 : h484 0 10 = 70 := by omega
          have e493 : h484 0 11 = 70 := by omega
          have e494 : h484 0 12 = 86 := by omega
          refine ov_blk (ls2 := [(0, ov_r 0), (1, ov_i v274), (2, ov_r 70)]) (st2 := [ov_r 0]) (pc2 := 42) b_23_41_1 rfl rfl ?_
          refine ov_getf (v := ov_r 4) d_23_42 fl_OF_28 (zb_0 I485) (zs_0 I485) (congrArg ov_r (rg_0_2 I485)) ?_
          refine ov_cV (as := []) (st := []) (d2 := d - 1) d_23_45 lk_OF_114 rfl (Nat.le_of_ble_eq_true rfl) (c := 7) (zb_4 I485) (zs_4 I485) ⟨by decide, rfl⟩ (by omega) (c_State_clear_4 (d - 1) (by omega) U (ov_I_ff (M := 34359738368) I485) (ov_kw_ff (ov_kws (ov_kwu hw) (by decide +kernel)) (by decide +kernel))) ?_
          rintro _ z496 h497 ⟨rfl, I498, f495⟩
          have I498k := I498
          have I498 := ov_I_fr I485 I498k
          have er499 : h497 35 = h484 35 := ov_ff_k I498k (Or.inl (by decide)) (by decide +kernel)
          have ek500 : h497 35 0 = (h484 35 0) := congrFun er499 0
          have ek501 : h497 35 1 = (h484 35 1) := congrFun er499 1
          have ek502 : h497 35 2 = (h484 35 2) := congrFun er499 2
          have ek503 : h497 35 3 = (h484 35 3) := congrFun er499 3
          show ov_R u d ov_m23 48 [(0, ov_r 0), (1, ov_i v274), (2, ov_r 70)] [] z496 h497 (P_OF_town_0_m f0 F z h)
          have f504 : (h497 36 7) = (h484 36 7) ∧ (h497 1 1) = (h484 1 1) ∧ (h497 90 2) = (h484 90 2) ∧ (h497 0 10) = (h484 0 10) ∧ (h497 0 11) = (h484 0 11) ∧ (h497 0 12) = (h484 0 12) ∧ (h497 0 13) = (h484 0 13) ∧ (h497 3 1) = (h484 3 1) ∧ (h497 36 8) = (h484 36 8) ∧ (h497 46 3) = (h484 46 3) ∧ (h497 46 4) = (h484 46 4) ∧ (h497 49 4) = (h484 49 4) ∧ (h497 49 5) = (h484 49 5) ∧ (h497 64 0) = (h484 64 0) ∧ (h497 76 0) = (h484 76 0) := f495
          clear f495
          have e505 : h497 0 10 = 70 := by omega
          have e506 : h497 0 11 = 70 := by omega
          have e507 : h497 0 12 = 86 := by omega
          refine ov_blk (ls2 := [(0, ov_r 0), (1, ov_i v274), (2, ov_r 70)]) (st2 := [ov_r 0]) (pc2 := 49) b_23_48_1 rfl rfl ?_
          refine ov_getf (v := ov_r 9) d_23_49 fl_OF_35 (zb_0 I498) (zs_0 I498) (congrArg ov_r (rg_0_3 I498)) ?_
          refine ov_cV (as := []) (st := []) (d2 := d - 1) d_23_52 lk_OF_115 rfl (Nat.le_of_ble_eq_true rfl) (c := 3) (zb_9 I498) (zs_9 I498) ⟨by decide, rfl⟩ (by omega) (c_History_clear_9 (d - 1) (by omega) U (ov_I_ff (M := 34359738368) I498) (ov_kw_ff (ov_kws (ov_kwu hw) (by decide +kernel)) (by decide +kernel))) ?_
          rintro _ z509 h510 ⟨rfl, I511, f508⟩
          have I511k := I511
          have I511 := ov_I_fr I498 I511k
          have er512 : h510 35 = h497 35 := ov_ff_k I511k (Or.inl (by decide)) (by decide +kernel)
          have ek513 : h510 35 0 = (h497 35 0) := congrFun er512 0
          have ek514 : h510 35 1 = (h497 35 1) := congrFun er512 1
          have ek515 : h510 35 2 = (h497 35 2) := congrFun er512 2
          have ek516 : h510 35 3 = (h497 35 3) := congrFun er512 3
          show ov_R u d ov_m23 55 [(0, ov_r 0), (1, ov_i v274), (2, ov_r 70)] [] z509 h510 (P_OF_town_0_m f0 F z h)
          have f517 : (h510 36 7) = (h497 36 7) ∧ (h510 1 1) = (h497 1 1) ∧ (h510 90 2) = (h497 90 2) ∧ (h510 0 10) = (h497 0 10) ∧ (h510 0 11) = (h497 0 11) ∧ (h510 0 12) = (h497 0 12) ∧ (h510 0 13) = (h497 0 13) ∧ (h510 3 1) = (h497 3 1) ∧ (h510 36 8) = (h497 36 8) ∧ (h510 46 3) = (h497 46 3) ∧ (h510 46 4) = (h497 46 4) ∧ (h510 49 4) = (h497 49 4) ∧ (h510 49 5) = (h497 49 5) ∧ (h510 64 0) = (h497 64 0) ∧ (h510 76 0) = (h497 76 0) := f508
          clear f508
          have e518 : h510 0 10 = 70 := by omega
          have e519 : h510 0 11 = 70 := by omega
          have e520 : h510 0 12 = 86 := by omega
          refine ov_blk (ls2 := [(0, ov_r 0), (1, ov_i v274), (2, ov_r 70)]) (st2 := [ov_r 0]) (pc2 := 56) b_23_55_1 rfl rfl ?_
          refine ov_cV (as := []) (st := []) (d2 := d - 1) d_23_56 lk_OF_116 rfl (Nat.le_of_ble_eq_true rfl) (c := 0) (zb_0 I511) (zs_0 I511) ⟨by decide, rfl⟩ (by omega) (c_OF_forgetMarks_0_m (d - 1) (by omega) U I511 (ov_kws (ov_kwu hw) (by decide +kernel))) ?_
          rintro _ z522 h523 ⟨rfl, I524, f521⟩
          show ov_R u d ov_m23 59 [(0, ov_r 0), (1, ov_i v274), (2, ov_r 70)] [] z522 h523 (P_OF_town_0_m f0 F z h)
          have f525 : (h523 35 0) = 0 ∧ (h523 35 1) = 0 ∧ (h523 35 2) = 0 ∧ (h523 35 3) = 0 ∧ (h523 36 7) = (h510 36 7) ∧ (h523 1 1) = (h510 1 1) ∧ (h523 90 2) = (h510 90 2) ∧ (h523 0 10) = (h510 0 10) ∧ (h523 0 11) = (h510 0 11) ∧ (h523 0 12) = (h510 0 12) ∧ (h523 0 13) = (h510 0 13) ∧ (h523 3 1) = (h510 3 1) ∧ (h523 36 8) = (h510 36 8) ∧ (h523 46 3) = (h510 46 3) ∧ (h523 46 4) = (h510 46 4) ∧ (h523 49 4) = (h510 49 4) ∧ (h523 49 5) = (h510 49 5) ∧ (h523 64 0) = (h510 64 0) ∧ (h523 76 0) = (h510 76 0) := f521
          clear f521
          have e526 : h523 0 10 = 70 := by omega
          have e527 : h523 0 11 = 70 := by omega
          have e528 : h523 0 12 = 86 := by omega
          refine ov_blk (ls2 := [(0, ov_r 0), (1, ov_i v274), (2, ov_r 70)]) (st2 := [ov_r 0]) (pc2 := 60) b_23_59_1 rfl rfl ?_
          refine ov_cV (as := []) (st := []) (d2 := d - 1) d_23_60 lk_OF_119 rfl (Nat.le_of_ble_eq_true rfl) (c := 0) (zb_0 I524) (zs_0 I524) ⟨by decide, rfl⟩ (by omega) (c_OF_forgetReckonings_0 (d - 1) (by omega) U (ov_I_ff (M := 34359738368) I524)) ?_
          rintro _ z530 h531 ⟨rfl, I532, f529⟩
          have I532k := I532
          have I532 := ov_I_fr I524 I532k
          have er533 : h531 35 = h523 35 := ov_ff_k I532k (Or.inl (by decide)) (by decide +kernel)
          have ek534 : h531 35 0 = (h523 35 0) := congrFun er533 0
          have ek535 : h531 35 1 = (h523 35 1) := congrFun er533 1
          have ek536 : h531 35 2 = (h523 35 2) := congrFun er533 2
          have ek537 : h531 35 3 = (h523 35 3) := congrFun er533 3
          show ov_R u d ov_m23 63 [(0, ov_r 0), (1, ov_i v274), (2, ov_r 70)] [] z530 h531 (P_OF_town_0_m f0 F z h)
          have f538 : (h531 36 7) = 0 ∧ (h531 1 1) = (h523 1 1) ∧ (h531 90 2) = (h523 90 2) ∧ (h531 0 10) = (h523 0 10) ∧ (h531 0 11) = (h523 0 11) ∧ (h531 0 12) = (h523 0 12) ∧ (h531 0 13) = (h523 0 13) ∧ (h531 3 1) = (h523 3 1) ∧ (h531 36 8) = (h523 36 8) ∧ (h531 46 3) = (h523 46 3) ∧ (h531 46 4) = (h523 46 4) ∧ (h531 49 4) = (h523 49 4) ∧ (h531 49 5) = (h523 49 5) ∧ (h531 64 0) = (h523 64 0) ∧ (h531 76 0) = (h523 76 0) := f529
          clear f529
          have e539 : h531 0 10 = 70 := by omega
          have e540 : h531 0 11 = 70 := by omega
          have e541 : h531 0 12 = 86 := by omega
          refine ov_blk (ls2 := [(0, ov_r 0), (1, ov_i v274), (2, ov_r 70)]) (st2 := [ov_i v274]) (pc2 := 64) b_23_63_1 rfl rfl ?_
          have gf542 : 1 ≤ (h531 70 0) ∧ 1 ≤ (h531 70 1) := ov_I_fg (h := h531) (T := 70) (by omega) I532
          have gk : F (-5) 58 = 1 := by omega
          have gf543 : 1 ≤ (h531 58 0) ∧ 1 ≤ (h531 58 1) := ov_I_fk (h := h531) (S := 58) (by omega) I532 gk
          exact ov_reti (st := []) d_23_64 rfl ⟨_, rfl, (ov_I_fd I532), (by show (h531 1 1) = 0 ∧ ((h531 36 7) = 1 → (h531 36 8) = (h531 0 10)) ∧ ((h531 0 10) = 58 ∧ (h531 0 11) = 70 ∧ 0 ≤ (h531 64 0) ∧ 1 ≤ (h531 58 0) ∧ 1 ≤ (h531 58 1) ∨ (h531 0 10) = 70 ∧ (h531 0 11) = 58 ∧ 0 ≤ (h531 76 0) ∧ 1 ≤ (h531 70 0) ∧ 1 ≤ (h531 70 1)) ∧ v274 = f0 ∧ (v274 = 0 → (h531 35 0) = 0) ∧ (¬ v274 = 0 → (h531 35 0) = (h 35 0)) ∧ (v274 = 0 → (h531 35 1) = 0) ∧ (¬ v274 = 0 → (h531 35 1) = (h 35 1)) ∧ (v274 = 0 → (h531 35 2) = 0) ∧ (¬ v274 = 0 → (h531 35 2) = (h 35 2)) ∧ (v274 = 0 → (h531 35 3) = 0) ∧ (¬ v274 = 0 → (h531 35 3) = (h 35 3)) ∧ (h531 90 2) = (h 90 2) ∧ (h531 0 12) = (h 0 12) ∧ (h531 0 13) = (h 0 13) ∧ (h531 46 3) = (h 46 3) ∧ (h531 46 4) = (h 46 4) ∧ (h531 49 4) = (h 49 4) ∧ (h531 49 5) = (h 49 5); omega)⟩

abbrev P_OF_mark_0_m (F : ov_H) (z : ov_Z) (h : ov_H) (m : Int) (b : Int) : Option ov_V → ov_Z → ov_H → Prop := fun r0 z' h' => ∃ r : Int, r0 = some (ov_i r) ∧ ov_I F z' h' ∧ (r = mk_ans (h 35 0) (h 35 1) (h 35 2) (h 35 3) m b ∧ (r = 0 ∨ r = 1) ∧ (h' 35 0) = mk_row r m 0 (h 35 0) ∧ (h' 35 1) = mk_row r m 1 (h 35 1) ∧ (h' 35 2) = mk_row r m 2 (h 35 2) ∧ (h' 35 3) = mk_row r m 3 (h 35 3) ∧ (h' 36 7) = (h 36 7) ∧ (h' 1 1) = (h 1 1) ∧ (h' 90 2) = (h 90 2) ∧ (h' 0 10) = (h 0 10) ∧ (h' 0 11) = (h 0 11) ∧ (h' 0 12) = (h 0 12) ∧ (h' 0 13) = (h 0 13) ∧ (h' 3 1) = (h 3 1) ∧ (h' 36 8) = (h 36 8) ∧ (h' 46 3) = (h 46 3) ∧ (h' 46 4) = (h 46 4) ∧ (h' 49 4) = (h 49 4) ∧ (h' 49 5) = (h 49 5) ∧ (h' 64 0) = (h 64 0) ∧ (h' 76 0) = (h 76 0))
set_option maxHeartbeats 4000000 in
theorem c_OF_mark_0_m {u : ov_U} {F : ov_H} {z : ov_Z} {h : ov_H} (d : Nat) (hd : 3 ≤ d) (U : ov_cap u) (I : ov_I F z h) (hw : ov_kw 68719444976 F) (m : Int) (b : Int) (g_m : ov_g m) (g_b : b = 0 ∨ b = 1) : ov_T u d ov_m196 [ov_r 0, ov_i m, ov_i b] z h (P_OF_mark_0_m F z h m b) := by
  refine ov_en rfl (Nat.le_of_ble_eq_true rfl) ?_
  show ov_R u d ov_m196 0 [(0, ov_r 0), (1, ov_i m), (2, ov_i b)] [] z h (P_OF_mark_0_m F z h m b)
  refine ov_blk (ls2 := [(0, ov_r 0), (1, ov_i m), (2, ov_i b)]) (st2 := [ov_i m]) (pc2 := 1) b_196_0_1 rfl rfl ?_
  refine ov_iflt (tgt := 26) d_196_1 (by decide) (by omega) (fun c1 => ?_) (fun c1 => ?_)
  · skip
    refine ov_blk (ls2 := [(0, ov_r 0), (1, ov_i m), (2, ov_i b)]) (st2 := [ov_i 0]) (pc2 := 27) b_196_26_1 rfl rfl ?_
    have hr : mk_ans (h 35 0) (h 35 1) (h 35 2) (h 35 3) m b = 0 := by unfold mk_ans; rw [if_neg (fun q => by have y := mk_at_e (f := h 35) (m := m) ⟨q.1, q.2.1⟩; have q2 := q.2.2; omega)]
    have gz0 : mk_row 0 m 0 (h 35 0) = h 35 0 := mk_row_0
    have gz1 : mk_row 0 m 1 (h 35 1) = h 35 1 := mk_row_0
    have gz2 : mk_row 0 m 2 (h 35 2) = h 35 2 := mk_row_0
    have gz3 : mk_row 0 m 3 (h 35 3) = h 35 3 := mk_row_0
    exact ov_retz (st := []) d_196_27 rfl (by omega) ⟨_, rfl, I, (by show 0 = mk_ans (h 35 0) (h 35 1) (h 35 2) (h 35 3) m b ∧ (0 = 0 ∨ 0 = 1) ∧ (h 35 0) = mk_row 0 m 0 (h 35 0) ∧ (h 35 1) = mk_row 0 m 1 (h 35 1) ∧ (h 35 2) = mk_row 0 m 2 (h 35 2) ∧ (h 35 3) = mk_row 0 m 3 (h 35 3) ∧ (h 36 7) = (h 36 7) ∧ (h 1 1) = (h 1 1) ∧ (h 90 2) = (h 90 2) ∧ (h 0 10) = (h 0 10) ∧ (h 0 11) = (h 0 11) ∧ (h 0 12) = (h 0 12) ∧ (h 0 13) = (h 0 13) ∧ (h 3 1) = (h 3 1) ∧ (h 36 8) = (h 36 8) ∧ (h 46 3) = (h 46 3) ∧ (h 46 4) = (h 46 4) ∧ (h 49 4) = (h 49 4) ∧ (h 49 5) = (h 49 5) ∧ (h 64 0) = (h 64 0) ∧ (h 76 0) = (h 76 0); omega)⟩
  · skip
    refine ov_blk (ls2 := [(0, ov_r 0), (1, ov_i m), (2, ov_i b)]) (st2 := [ov_r 0, ov_i m]) (pc2 := 6) b_196_4_2 rfl rfl ?_
    refine ov_getf (v := ov_r 14) d_196_6 fl_OF_39 (zb_0 I) (zs_0 I) (congrArg ov_r (rg_0_4 I)) ?_
    refine ov_alen d_196_9 (zb_14 I) (zs_14 I) (by decide) ?_
    show ov_R u d ov_m196 10 [(0, ov_r 0), (1, ov_i m), (2, ov_i b)] [ov_i 4, ov_i m] z h (P_OF_mark_0_m F z h m b)
    refine ov_icge (tgt := 26) d_196_10 (by decide) (by omega) (by omega) (fun c2 => ?_) (fun c2 => ?_)
    · skip
      refine ov_blk (ls2 := [(0, ov_r 0), (1, ov_i m), (2, ov_i b)]) (st2 := [ov_i 0]) (pc2 := 27) b_196_26_1 rfl rfl ?_
      have hr : mk_ans (h 35 0) (h 35 1) (h 35 2) (h 35 3) m b = 0 := by unfold mk_ans; rw [if_neg (fun q => by have y := mk_at_e (f := h 35) (m := m) ⟨q.1, q.2.1⟩; have q2 := q.2.2; omega)]
      have gz0 : mk_row 0 m 0 (h 35 0) = h 35 0 := mk_row_0
      have gz1 : mk_row 0 m 1 (h 35 1) = h 35 1 := mk_row_0
      have gz2 : mk_row 0 m 2 (h 35 2) = h 35 2 := mk_row_0
      have gz3 : mk_row 0 m 3 (h 35 3) = h 35 3 := mk_row_0
      exact ov_retz (st := []) d_196_27 rfl (by omega) ⟨_, rfl, I, (by show 0 = mk_ans (h 35 0) (h 35 1) (h 35 2) (h 35 3) m b ∧ (0 = 0 ∨ 0 = 1) ∧ (h 35 0) = mk_row 0 m 0 (h 35 0) ∧ (h 35 1) = mk_row 0 m 1 (h 35 1) ∧ (h 35 2) = mk_row 0 m 2 (h 35 2) ∧ (h 35 3) = mk_row 0 m 3 (h 35 3) ∧ (h 36 7) = (h 36 7) ∧ (h 1 1) = (h 1 1) ∧ (h 90 2) = (h 90 2) ∧ (h 0 10) = (h 0 10) ∧ (h 0 11) = (h 0 11) ∧ (h 0 12) = (h 0 12) ∧ (h 0 13) = (h 0 13) ∧ (h 3 1) = (h 3 1) ∧ (h 36 8) = (h 36 8) ∧ (h 46 3) = (h 46 3) ∧ (h 46 4) = (h 46 4) ∧ (h 49 4) = (h 49 4) ∧ (h 49 5) = (h 49 5) ∧ (h 64 0) = (h 64 0) ∧ (h 76 0) = (h 76 0); omega)⟩
    · skip
      refine ov_blk (ls2 := [(0, ov_r 0), (1, ov_i m), (2, ov_i b)]) (st2 := [ov_i b]) (pc2 := 14) b_196_13_1 rfl rfl ?_
      refine ov_ifeq (tgt := 28) d_196_14 (by decide) (by omega) (fun c3 => ?_) (fun c3 => ?_)
      · skip
        refine ov_blk (ls2 := [(0, ov_r 0), (1, ov_i m), (2, ov_i b)]) (st2 := [ov_i b]) (pc2 := 29) b_196_28_1 rfl rfl ?_
        refine ov_ifeq (tgt := 55) d_196_29 (by decide) (by omega) (fun c4 => ?_) (fun c4 => ?_)
        · skip
          refine ov_blk (ls2 := [(0, ov_r 0), (1, ov_i m), (2, ov_i b)]) (st2 := [ov_r 0]) (pc2 := 56) b_196_55_1 rfl rfl ?_
          refine ov_getf (v := ov_r 14) d_196_56 fl_OF_39 (zb_0 I) (zs_0 I) (congrArg ov_r (rg_0_4 I)) ?_
          refine ov_blk (ls2 := [(0, ov_r 0), (1, ov_i m), (2, ov_i b)]) (st2 := [ov_i m, ov_r 14]) (pc2 := 60) b_196_59_1 rfl rfl ?_
          refine ov_aald d_196_60 (zb_14 I) (zs_14 I) (by omega) ?_
          have me5 : m = 0 ∨ m = 1 ∨ m = 2 ∨ m = 3 := by omega
          have ne5 := ra_14 I m
          rcases me5 with e5 | e5 | e5 | e5
          · have re5 : h 14 m = 15 := by omega
            rw [re5]
            show ov_R u d ov_m196 61 [(0, ov_r 0), (1, ov_i m), (2, ov_i b)] [ov_r 15] z h (P_OF_mark_0_m F z h m b)
            refine ov_blk (ls2 := [(0, ov_r 0), (1, ov_i m), (2, ov_i b)]) (st2 := [ov_r 0, ov_r 15]) (pc2 := 62) b_196_61_1 rfl rfl ?_
            refine ov_getf (v := ov_r 4) d_196_62 fl_OF_28 (zb_0 I) (zs_0 I) (congrArg ov_r (rg_0_2 I)) ?_
            refine ov_cV (as := [ov_r 4]) (st := []) (d2 := d - 1) d_196_65 lk_OF_322 rfl (Nat.le_of_ble_eq_true rfl) (c := 7) (zb_15 I) (zs_15 I) ⟨by decide, rfl⟩ (by omega) (c_State_copy_15_4 (d - 1) (by omega) U (ov_I_ff (M := 34359738368) I) (ov_kw_ff (ov_kws hw (by decide +kernel)) (by decide +kernel))) ?_
            rintro _ z7 h8 ⟨rfl, I9, f6⟩
            have I9k := I9
            have I9 := ov_I_fr I I9k
            have er10 : h8 35 = h 35 := ov_ff_k I9k (Or.inl (by decide)) (by decide +kernel)
            have ek11 : h8 35 0 = (h 35 0) := congrFun er10 0
            have ek12 : h8 35 1 = (h 35 1) := congrFun er10 1
            have ek13 : h8 35 2 = (h 35 2) := congrFun er10 2
            have ek14 : h8 35 3 = (h 35 3) := congrFun er10 3
            show ov_R u d ov_m196 68 [(0, ov_r 0), (1, ov_i m), (2, ov_i b)] [] z7 h8 (P_OF_mark_0_m F z h m b)
            have f15 : (h8 36 7) = (h 36 7) ∧ (h8 1 1) = (h 1 1) ∧ (h8 90 2) = (h 90 2) ∧ (h8 0 10) = (h 0 10) ∧ (h8 0 11) = (h 0 11) ∧ (h8 0 12) = (h 0 12) ∧ (h8 0 13) = (h 0 13) ∧ (h8 3 1) = (h 3 1) ∧ (h8 36 8) = (h 36 8) ∧ (h8 46 3) = (h 46 3) ∧ (h8 46 4) = (h 46 4) ∧ (h8 49 4) = (h 49 4) ∧ (h8 49 5) = (h 49 5) ∧ (h8 64 0) = (h 64 0) ∧ (h8 76 0) = (h 76 0) := f6
            clear f6
            refine ov_blk (ls2 := [(0, ov_r 0), (1, ov_i m), (2, ov_i b)]) (st2 := [ov_r 0]) (pc2 := 69) b_196_68_1 rfl rfl ?_
            refine ov_getf (v := ov_r 35) d_196_69 fl_OF_43 (zb_0 I9) (zs_0 I9) (congrArg ov_r (rg_0_5 I9)) ?_
            refine ov_blk (ls2 := [(0, ov_r 0), (1, ov_i m), (2, ov_i b)]) (st2 := [ov_i 1, ov_i m, ov_r 35]) (pc2 := 74) b_196_72_2 rfl rfl ?_
            refine ov_zast d_196_74 (zb_35 I9) (zs_35 I9) (by omega) (by omega) ?_
            have I16 := ua_35 (k := m) (x := 1) I9 (by omega) (hw 35 (by decide +kernel))
            refine ov_blk (ls2 := [(0, ov_r 0), (1, ov_i m), (2, ov_i b)]) (st2 := [ov_i 1]) (pc2 := 76) b_196_75_1 rfl rfl ?_
            have y4 := mk_at_e (f := h 35) (m := m) ⟨by omega, by omega⟩
            have hr : mk_ans (h 35 0) (h 35 1) (h 35 2) (h 35 3) m b = 1 := by unfold mk_ans; rw [if_pos ⟨by omega, by omega, by omega⟩]
            have gz0 : ((ov_up h8 35 m 1) 35 0) = mk_row 1 m 0 (h 35 0) := by show ov_up h8 35 m 1 35 0 = _; rw [ov_up_row, mk_row_u, show h8 35 0 = h 35 0 by omega]
            have gz1 : ((ov_up h8 35 m 1) 35 1) = mk_row 1 m 1 (h 35 1) := by show ov_up h8 35 m 1 35 1 = _; rw [ov_up_row, mk_row_u, show h8 35 1 = h 35 1 by omega]
            have gz2 : ((ov_up h8 35 m 1) 35 2) = mk_row 1 m 2 (h 35 2) := by show ov_up h8 35 m 1 35 2 = _; rw [ov_up_row, mk_row_u, show h8 35 2 = h 35 2 by omega]
            have gz3 : ((ov_up h8 35 m 1) 35 3) = mk_row 1 m 3 (h 35 3) := by show ov_up h8 35 m 1 35 3 = _; rw [ov_up_row, mk_row_u, show h8 35 3 = h 35 3 by omega]
            exact ov_retz (st := []) d_196_76 rfl (by omega) ⟨_, rfl, I16, (by show 1 = mk_ans (h 35 0) (h 35 1) (h 35 2) (h 35 3) m b ∧ (1 = 0 ∨ 1 = 1) ∧ ((ov_up h8 35 m 1) 35 0) = mk_row 1 m 0 (h 35 0) ∧ ((ov_up h8 35 m 1) 35 1) = mk_row 1 m 1 (h 35 1) ∧ ((ov_up h8 35 m 1) 35 2) = mk_row 1 m 2 (h 35 2) ∧ ((ov_up h8 35 m 1) 35 3) = mk_row 1 m 3 (h 35 3) ∧ (h8 36 7) = (h 36 7) ∧ (h8 1 1) = (h 1 1) ∧ (h8 90 2) = (h 90 2) ∧ (h8 0 10) = (h 0 10) ∧ (h8 0 11) = (h 0 11) ∧ (h8 0 12) = (h 0 12) ∧ (h8 0 13) = (h 0 13) ∧ (h8 3 1) = (h 3 1) ∧ (h8 36 8) = (h 36 8) ∧ (h8 46 3) = (h 46 3) ∧ (h8 46 4) = (h 46 4) ∧ (h8 49 4) = (h 49 4) ∧ (h8 49 5) = (h 49 5) ∧ (h8 64 0) = (h 64 0) ∧ (h8 76 0) = (h 76 0); omega)⟩
          · have re5 : h 14 m = 20 := by omega
            rw [re5]
            show ov_R u d ov_m196 61 [(0, ov_r 0), (1, ov_i m), (2, ov_i b)] [ov_r 20] z h (P_OF_mark_0_m F z h m b)
            refine ov_blk (ls2 := [(0, ov_r 0), (1, ov_i m), (2, ov_i b)]) (st2 := [ov_r 0, ov_r 20]) (pc2 := 62) b_196_61_1 rfl rfl ?_
            refine ov_getf (v := ov_r 4) d_196_62 fl_OF_28 (zb_0 I) (zs_0 I) (congrArg ov_r (rg_0_2 I)) ?_
            refine ov_cV (as := [ov_r 4]) (st := []) (d2 := d - 1) d_196_65 lk_OF_322 rfl (Nat.le_of_ble_eq_true rfl) (c := 7) (zb_20 I) (zs_20 I) ⟨by decide, rfl⟩ (by omega) (c_State_copy_20_4 (d - 1) (by omega) U (ov_I_ff (M := 34359738368) I) (ov_kw_ff (ov_kws hw (by decide +kernel)) (by decide +kernel))) ?_
            rintro _ z18 h19 ⟨rfl, I20, f17⟩
            have I20k := I20
            have I20 := ov_I_fr I I20k
            have er21 : h19 35 = h 35 := ov_ff_k I20k (Or.inl (by decide)) (by decide +kernel)
            have ek22 : h19 35 0 = (h 35 0) := congrFun er21 0
            have ek23 : h19 35 1 = (h 35 1) := congrFun er21 1
            have ek24 : h19 35 2 = (h 35 2) := congrFun er21 2
            have ek25 : h19 35 3 = (h 35 3) := congrFun er21 3
            show ov_R u d ov_m196 68 [(0, ov_r 0), (1, ov_i m), (2, ov_i b)] [] z18 h19 (P_OF_mark_0_m F z h m b)
            have f26 : (h19 36 7) = (h 36 7) ∧ (h19 1 1) = (h 1 1) ∧ (h19 90 2) = (h 90 2) ∧ (h19 0 10) = (h 0 10) ∧ (h19 0 11) = (h 0 11) ∧ (h19 0 12) = (h 0 12) ∧ (h19 0 13) = (h 0 13) ∧ (h19 3 1) = (h 3 1) ∧ (h19 36 8) = (h 36 8) ∧ (h19 46 3) = (h 46 3) ∧ (h19 46 4) = (h 46 4) ∧ (h19 49 4) = (h 49 4) ∧ (h19 49 5) = (h 49 5) ∧ (h19 64 0) = (h 64 0) ∧ (h19 76 0) = (h 76 0) := f17
            clear f17
            refine ov_blk (ls2 := [(0, ov_r 0), (1, ov_i m), (2, ov_i b)]) (st2 := [ov_r 0]) (pc2 := 69) b_196_68_1 rfl rfl ?_
            refine ov_getf (v := ov_r 35) d_196_69 fl_OF_43 (zb_0 I20) (zs_0 I20) (congrArg ov_r (rg_0_5 I20)) ?_
            refine ov_blk (ls2 := [(0, ov_r 0), (1, ov_i m), (2, ov_i b)]) (st2 := [ov_i 1, ov_i m, ov_r 35]) (pc2 := 74) b_196_72_2 rfl rfl ?_
            refine ov_zast d_196_74 (zb_35 I20) (zs_35 I20) (by omega) (by omega) ?_
            have I27 := ua_35 (k := m) (x := 1) I20 (by omega) (hw 35 (by decide +kernel))
            refine ov_blk (ls2 := [(0, ov_r 0), (1, ov_i m), (2, ov_i b)]) (st2 := [ov_i 1]) (pc2 := 76) b_196_75_1 rfl rfl ?_
            have y4 := mk_at_e (f := h 35) (m := m) ⟨by omega, by omega⟩
            have hr : mk_ans (h 35 0) (h 35 1) (h 35 2) (h 35 3) m b = 1 := by unfold mk_ans; rw [if_pos ⟨by omega, by omega, by omega⟩]
            have gz0 : ((ov_up h19 35 m 1) 35 0) = mk_row 1 m 0 (h 35 0) := by show ov_up h19 35 m 1 35 0 = _; rw [ov_up_row, mk_row_u, show h19 35 0 = h 35 0 by omega]
            have gz1 : ((ov_up h19 35 m 1) 35 1) = mk_row 1 m 1 (h 35 1) := by show ov_up h19 35 m 1 35 1 = _; rw [ov_up_row, mk_row_u, show h19 35 1 = h 35 1 by omega]
            have gz2 : ((ov_up h19 35 m 1) 35 2) = mk_row 1 m 2 (h 35 2) := by show ov_up h19 35 m 1 35 2 = _; rw [ov_up_row, mk_row_u, show h19 35 2 = h 35 2 by omega]
            have gz3 : ((ov_up h19 35 m 1) 35 3) = mk_row 1 m 3 (h 35 3) := by show ov_up h19 35 m 1 35 3 = _; rw [ov_up_row, mk_row_u, show h19 35 3 = h 35 3 by omega]
            exact ov_retz (st := []) d_196_76 rfl (by omega) ⟨_, rfl, I27, (by show 1 = mk_ans (h 35 0) (h 35 1) (h 35 2) (h 35 3) m b ∧ (1 = 0 ∨ 1 = 1) ∧ ((ov_up h19 35 m 1) 35 0) = mk_row 1 m 0 (h 35 0) ∧ ((ov_up h19 35 m 1) 35 1) = mk_row 1 m 1 (h 35 1) ∧ ((ov_up h19 35 m 1) 35 2) = mk_row 1 m 2 (h 35 2) ∧ ((ov_up h19 35 m 1) 35 3) = mk_row 1 m 3 (h 35 3) ∧ (h19 36 7) = (h 36 7) ∧ (h19 1 1) = (h 1 1) ∧ (h19 90 2) = (h 90 2) ∧ (h19 0 10) = (h 0 10) ∧ (h19 0 11) = (h 0 11) ∧ (h19 0 12) = (h 0 12) ∧ (h19 0 13) = (h 0 13) ∧ (h19 3 1) = (h 3 1) ∧ (h19 36 8) = (h 36 8) ∧ (h19 46 3) = (h 46 3) ∧ (h19 46 4) = (h 46 4) ∧ (h19 49 4) = (h 49 4) ∧ (h19 49 5) = (h 49 5) ∧ (h19 64 0) = (h 64 0) ∧ (h19 76 0) = (h 76 0); omega)⟩
          · have re5 : h 14 m = 25 := by omega
            rw [re5]
            show ov_R u d ov_m196 61 [(0, ov_r 0), (1, ov_i m), (2, ov_i b)] [ov_r 25] z h (P_OF_mark_0_m F z h m b)
            refine ov_blk (ls2 := [(0, ov_r 0), (1, ov_i m), (2, ov_i b)]) (st2 := [ov_r 0, ov_r 25]) (pc2 := 62) b_196_61_1 rfl rfl ?_
            refine ov_getf (v := ov_r 4) d_196_62 fl_OF_28 (zb_0 I) (zs_0 I) (congrArg ov_r (rg_0_2 I)) ?_
            refine ov_cV (as := [ov_r 4]) (st := []) (d2 := d - 1) d_196_65 lk_OF_322 rfl (Nat.le_of_ble_eq_true rfl) (c := 7) (zb_25 I) (zs_25 I) ⟨by decide, rfl⟩ (by omega) (c_State_copy_25_4 (d - 1) (by omega) U (ov_I_ff (M := 34359738368) I) (ov_kw_ff (ov_kws hw (by decide +kernel)) (by decide +kernel))) ?_
            rintro _ z29 h30 ⟨rfl, I31, f28⟩
            have I31k := I31
            have I31 := ov_I_fr I I31k
            have er32 : h30 35 = h 35 := ov_ff_k I31k (Or.inl (by decide)) (by decide +kernel)
            have ek33 : h30 35 0 = (h 35 0) := congrFun er32 0
            have ek34 : h30 35 1 = (h 35 1) := congrFun er32 1
            have ek35 : h30 35 2 = (h 35 2) := congrFun er32 2
            have ek36 : h30 35 3 = (h 35 3) := congrFun er32 3
            show ov_R u d ov_m196 68 [(0, ov_r 0), (1, ov_i m), (2, ov_i b)] [] z29 h30 (P_OF_mark_0_m F z h m b)
            have f37 : (h30 36 7) = (h 36 7) ∧ (h30 1 1) = (h 1 1) ∧ (h30 90 2) = (h 90 2) ∧ (h30 0 10) = (h 0 10) ∧ (h30 0 11) = (h 0 11) ∧ (h30 0 12) = (h 0 12) ∧ (h30 0 13) = (h 0 13) ∧ (h30 3 1) = (h 3 1) ∧ (h30 36 8) = (h 36 8) ∧ (h30 46 3) = (h 46 3) ∧ (h30 46 4) = (h 46 4) ∧ (h30 49 4) = (h 49 4) ∧ (h30 49 5) = (h 49 5) ∧ (h30 64 0) = (h 64 0) ∧ (h30 76 0) = (h 76 0) := f28
            clear f28
            refine ov_blk (ls2 := [(0, ov_r 0), (1, ov_i m), (2, ov_i b)]) (st2 := [ov_r 0]) (pc2 := 69) b_196_68_1 rfl rfl ?_
            refine ov_getf (v := ov_r 35) d_196_69 fl_OF_43 (zb_0 I31) (zs_0 I31) (congrArg ov_r (rg_0_5 I31)) ?_
            refine ov_blk (ls2 := [(0, ov_r 0), (1, ov_i m), (2, ov_i b)]) (st2 := [ov_i 1, ov_i m, ov_r 35]) (pc2 := 74) b_196_72_2 rfl rfl ?_
            refine ov_zast d_196_74 (zb_35 I31) (zs_35 I31) (by omega) (by omega) ?_
            have I38 := ua_35 (k := m) (x := 1) I31 (by omega) (hw 35 (by decide +kernel))
            refine ov_blk (ls2 := [(0, ov_r 0), (1, ov_i m), (2, ov_i b)]) (st2 := [ov_i 1]) (pc2 := 76) b_196_75_1 rfl rfl ?_
            have y4 := mk_at_e (f := h 35) (m := m) ⟨by omega, by omega⟩
            have hr : mk_ans (h 35 0) (h 35 1) (h 35 2) (h 35 3) m b = 1 := by unfold mk_ans; rw [if_pos ⟨by omega, by omega, by omega⟩]
            have gz0 : ((ov_up h30 35 m 1) 35 0) = mk_row 1 m 0 (h 35 0) := by show ov_up h30 35 m 1 35 0 = _; rw [ov_up_row, mk_row_u, show h30 35 0 = h 35 0 by omega]
            have gz1 : ((ov_up h30 35 m 1) 35 1) = mk_row 1 m 1 (h 35 1) := by show ov_up h30 35 m 1 35 1 = _; rw [ov_up_row, mk_row_u, show h30 35 1 = h 35 1 by omega]
            have gz2 : ((ov_up h30 35 m 1) 35 2) = mk_row 1 m 2 (h 35 2) := by show ov_up h30 35 m 1 35 2 = _; rw [ov_up_row, mk_row_u, show h30 35 2 = h 35 2 by omega]
            have gz3 : ((ov_up h30 35 m 1) 35 3) = mk_row 1 m 3 (h 35 3) := by show ov_up h30 35 m 1 35 3 = _; rw [ov_up_row, mk_row_u, show h30 35 3 = h 35 3 by omega]
            exact ov_retz (st := []) d_196_76 rfl (by omega) ⟨_, rfl, I38, (by show 1 = mk_ans (h 35 0) (h 35 1) (h 35 2) (h 35 3) m b ∧ (1 = 0 ∨ 1 = 1) ∧ ((ov_up h30 35 m 1) 35 0) = mk_row 1 m 0 (h 35 0) ∧ ((ov_up h30 35 m 1) 35 1) = mk_row 1 m 1 (h 35 1) ∧ ((ov_up h30 35 m 1) 35 2) = mk_row 1 m 2 (h 35 2) ∧ ((ov_up h30 35 m 1) 35 3) = mk_row 1 m 3 (h 35 3) ∧ (h30 36 7) = (h 36 7) ∧ (h30 1 1) = (h 1 1) ∧ (h30 90 2) = (h 90 2) ∧ (h30 0 10) = (h 0 10) ∧ (h30 0 11) = (h 0 11) ∧ (h30 0 12) = (h 0 12) ∧ (h30 0 13) = (h 0 13) ∧ (h30 3 1) = (h 3 1) ∧ (h30 36 8) = (h 36 8) ∧ (h30 46 3) = (h 46 3) ∧ (h30 46 4) = (h 46 4) ∧ (h30 49 4) = (h 49 4) ∧ (h30 49 5) = (h 49 5) ∧ (h30 64 0) = (h 64 0) ∧ (h30 76 0) = (h 76 0); omega)⟩
          · have re5 : h 14 m = 30 := by omega
            rw [re5]
            show ov_R u d ov_m196 61 [(0, ov_r 0), (1, ov_i m), (2, ov_i b)] [ov_r 30] z h (P_OF_mark_0_m F z h m b)
            refine ov_blk (ls2 := [(0, ov_r 0), (1, ov_i m), (2, ov_i b)]) (st2 := [ov_r 0, ov_r 30]) (pc2 := 62) b_196_61_1 rfl rfl ?_
            refine ov_getf (v := ov_r 4) d_196_62 fl_OF_28 (zb_0 I) (zs_0 I) (congrArg ov_r (rg_0_2 I)) ?_
            refine ov_cV (as := [ov_r 4]) (st := []) (d2 := d - 1) d_196_65 lk_OF_322 rfl (Nat.le_of_ble_eq_true rfl) (c := 7) (zb_30 I) (zs_30 I) ⟨by decide, rfl⟩ (by omega) (c_State_copy_30_4 (d - 1) (by omega) U (ov_I_ff (M := 34359738368) I) (ov_kw_ff (ov_kws hw (by decide +kernel)) (by decide +kernel))) ?_
            rintro _ z40 h41 ⟨rfl, I42, f39⟩
            have I42k := I42
            have I42 := ov_I_fr I I42k
            have er43 : h41 35 = h 35 := ov_ff_k I42k (Or.inl (by decide)) (by decide +kernel)
            have ek44 : h41 35 0 = (h 35 0) := congrFun er43 0
            have ek45 : h41 35 1 = (h 35 1) := congrFun er43 1
            have ek46 : h41 35 2 = (h 35 2) := congrFun er43 2
            have ek47 : h41 35 3 = (h 35 3) := congrFun er43 3
            show ov_R u d ov_m196 68 [(0, ov_r 0), (1, ov_i m), (2, ov_i b)] [] z40 h41 (P_OF_mark_0_m F z h m b)
            have f48 : (h41 36 7) = (h 36 7) ∧ (h41 1 1) = (h 1 1) ∧ (h41 90 2) = (h 90 2) ∧ (h41 0 10) = (h 0 10) ∧ (h41 0 11) = (h 0 11) ∧ (h41 0 12) = (h 0 12) ∧ (h41 0 13) = (h 0 13) ∧ (h41 3 1) = (h 3 1) ∧ (h41 36 8) = (h 36 8) ∧ (h41 46 3) = (h 46 3) ∧ (h41 46 4) = (h 46 4) ∧ (h41 49 4) = (h 49 4) ∧ (h41 49 5) = (h 49 5) ∧ (h41 64 0) = (h 64 0) ∧ (h41 76 0) = (h 76 0) := f39
            clear f39
            refine ov_blk (ls2 := [(0, ov_r 0), (1, ov_i m), (2, ov_i b)]) (st2 := [ov_r 0]) (pc2 := 69) b_196_68_1 rfl rfl ?_
            refine ov_getf (v := ov_r 35) d_196_69 fl_OF_43 (zb_0 I42) (zs_0 I42) (congrArg ov_r (rg_0_5 I42)) ?_
            refine ov_blk (ls2 := [(0, ov_r 0), (1, ov_i m), (2, ov_i b)]) (st2 := [ov_i 1, ov_i m, ov_r 35]) (pc2 := 74) b_196_72_2 rfl rfl ?_
            refine ov_zast d_196_74 (zb_35 I42) (zs_35 I42) (by omega) (by omega) ?_
            have I49 := ua_35 (k := m) (x := 1) I42 (by omega) (hw 35 (by decide +kernel))
            refine ov_blk (ls2 := [(0, ov_r 0), (1, ov_i m), (2, ov_i b)]) (st2 := [ov_i 1]) (pc2 := 76) b_196_75_1 rfl rfl ?_
            have y4 := mk_at_e (f := h 35) (m := m) ⟨by omega, by omega⟩
            have hr : mk_ans (h 35 0) (h 35 1) (h 35 2) (h 35 3) m b = 1 := by unfold mk_ans; rw [if_pos ⟨by omega, by omega, by omega⟩]
            have gz0 : ((ov_up h41 35 m 1) 35 0) = mk_row 1 m 0 (h 35 0) := by show ov_up h41 35 m 1 35 0 = _; rw [ov_up_row, mk_row_u, show h41 35 0 = h 35 0 by omega]
            have gz1 : ((ov_up h41 35 m 1) 35 1) = mk_row 1 m 1 (h 35 1) := by show ov_up h41 35 m 1 35 1 = _; rw [ov_up_row, mk_row_u, show h41 35 1 = h 35 1 by omega]
            have gz2 : ((ov_up h41 35 m 1) 35 2) = mk_row 1 m 2 (h 35 2) := by show ov_up h41 35 m 1 35 2 = _; rw [ov_up_row, mk_row_u, show h41 35 2 = h 35 2 by omega]
            have gz3 : ((ov_up h41 35 m 1) 35 3) = mk_row 1 m 3 (h 35 3) := by show ov_up h41 35 m 1 35 3 = _; rw [ov_up_row, mk_row_u, show h41 35 3 = h 35 3 by omega]
            exact ov_retz (st := []) d_196_76 rfl (by omega) ⟨_, rfl, I49, (by show 1 = mk_ans (h 35 0) (h 35 1) (h 35 2) (h 35 3) m b ∧ (1 = 0 ∨ 1 = 1) ∧ ((ov_up h41 35 m 1) 35 0) = mk_row 1 m 0 (h 35 0) ∧ ((ov_up h41 35 m 1) 35 1) = mk_row 1 m 1 (h 35 1) ∧ ((ov_up h41 35 m 1) 35 2) = mk_row 1 m 2 (h 35 2) ∧ ((ov_up h41 35 m 1) 35 3) = mk_row 1 m 3 (h 35 3) ∧ (h41 36 7) = (h 36 7) ∧ (h41 1 1) = (h 1 1) ∧ (h41 90 2) = (h 90 2) ∧ (h41 0 10) = (h 0 10) ∧ (h41 0 11) = (h 0 11) ∧ (h41 0 12) = (h 0 12) ∧ (h41 0 13) = (h 0 13) ∧ (h41 3 1) = (h 3 1) ∧ (h41 36 8) = (h 36 8) ∧ (h41 46 3) = (h 46 3) ∧ (h41 46 4) = (h 46 4) ∧ (h41 49 4) = (h 49 4) ∧ (h41 49 5) = (h 49 5) ∧ (h41 64 0) = (h 64 0) ∧ (h41 76 0) = (h 76 0); omega)⟩
        · skip
          refine ov_blk (ls2 := [(0, ov_r 0), (1, ov_i m), (2, ov_i b)]) (st2 := [ov_r 0]) (pc2 := 33) b_196_32_1 rfl rfl ?_
          refine ov_getf (v := ov_r 4) d_196_33 fl_OF_28 (zb_0 I) (zs_0 I) (congrArg ov_r (rg_0_2 I)) ?_
          refine ov_blk (ls2 := [(0, ov_r 0), (1, ov_i m), (2, ov_i b)]) (st2 := [ov_r 0, ov_r 4]) (pc2 := 37) b_196_36_1 rfl rfl ?_
          refine ov_getf (v := ov_r 14) d_196_37 fl_OF_39 (zb_0 I) (zs_0 I) (congrArg ov_r (rg_0_4 I)) ?_
          refine ov_blk (ls2 := [(0, ov_r 0), (1, ov_i m), (2, ov_i b)]) (st2 := [ov_i m, ov_r 14, ov_r 4]) (pc2 := 41) b_196_40_1 rfl rfl ?_
          refine ov_aald d_196_41 (zb_14 I) (zs_14 I) (by omega) ?_
          have me50 : m = 0 ∨ m = 1 ∨ m = 2 ∨ m = 3 := by omega
          have ne50 := ra_14 I m
          rcases me50 with e50 | e50 | e50 | e50
          · have re50 : h 14 m = 15 := by omega
            rw [re50]
            show ov_R u d ov_m196 42 [(0, ov_r 0), (1, ov_i m), (2, ov_i b)] [ov_r 15, ov_r 4] z h (P_OF_mark_0_m F z h m b)
            refine ov_cV (as := [ov_r 15]) (st := []) (d2 := d - 1) d_196_42 lk_OF_322 rfl (Nat.le_of_ble_eq_true rfl) (c := 7) (zb_4 I) (zs_4 I) ⟨by decide, rfl⟩ (by omega) (c_State_copy_4_15 (d - 1) (by omega) U (ov_I_ff (M := 34359738368) I) (ov_kw_ff (ov_kws hw (by decide +kernel)) (by decide +kernel))) ?_
            rintro _ z52 h53 ⟨rfl, I54, f51⟩
            have I54k := I54
            have I54 := ov_I_fr I I54k
            have er55 : h53 35 = h 35 := ov_ff_k I54k (Or.inl (by decide)) (by decide +kernel)
            have ek56 : h53 35 0 = (h 35 0) := congrFun er55 0
            have ek57 : h53 35 1 = (h 35 1) := congrFun er55 1
            have ek58 : h53 35 2 = (h 35 2) := congrFun er55 2
            have ek59 : h53 35 3 = (h 35 3) := congrFun er55 3
            show ov_R u d ov_m196 45 [(0, ov_r 0), (1, ov_i m), (2, ov_i b)] [] z52 h53 (P_OF_mark_0_m F z h m b)
            have f60 : (h53 36 7) = (h 36 7) ∧ (h53 1 1) = (h 1 1) ∧ (h53 90 2) = (h 90 2) ∧ (h53 0 10) = (h 0 10) ∧ (h53 0 11) = (h 0 11) ∧ (h53 0 12) = (h 0 12) ∧ (h53 0 13) = (h 0 13) ∧ (h53 3 1) = (h 3 1) ∧ (h53 36 8) = (h 36 8) ∧ (h53 46 3) = (h 46 3) ∧ (h53 46 4) = (h 46 4) ∧ (h53 49 4) = (h 49 4) ∧ (h53 49 5) = (h 49 5) ∧ (h53 64 0) = (h 64 0) ∧ (h53 76 0) = (h 76 0) := f51
            clear f51
            refine ov_blk (ls2 := [(0, ov_r 0), (1, ov_i m), (2, ov_i b)]) (st2 := [ov_r 0]) (pc2 := 46) b_196_45_1 rfl rfl ?_
            refine ov_getf (v := ov_r 9) d_196_46 fl_OF_35 (zb_0 I54) (zs_0 I54) (congrArg ov_r (rg_0_3 I54)) ?_
            refine ov_cV (as := []) (st := []) (d2 := d - 1) d_196_49 lk_OF_115 rfl (Nat.le_of_ble_eq_true rfl) (c := 3) (zb_9 I54) (zs_9 I54) ⟨by decide, rfl⟩ (by omega) (c_History_clear_9 (d - 1) (by omega) U (ov_I_ff (M := 34359738368) I54) (ov_kw_ff (ov_kws hw (by decide +kernel)) (by decide +kernel))) ?_
            rintro _ z62 h63 ⟨rfl, I64, f61⟩
            have I64k := I64
            have I64 := ov_I_fr I54 I64k
            have er65 : h63 35 = h53 35 := ov_ff_k I64k (Or.inl (by decide)) (by decide +kernel)
            have ek66 : h63 35 0 = (h53 35 0) := congrFun er65 0
            have ek67 : h63 35 1 = (h53 35 1) := congrFun er65 1
            have ek68 : h63 35 2 = (h53 35 2) := congrFun er65 2
            have ek69 : h63 35 3 = (h53 35 3) := congrFun er65 3
            show ov_R u d ov_m196 52 [(0, ov_r 0), (1, ov_i m), (2, ov_i b)] [] z62 h63 (P_OF_mark_0_m F z h m b)
            have f70 : (h63 36 7) = (h53 36 7) ∧ (h63 1 1) = (h53 1 1) ∧ (h63 90 2) = (h53 90 2) ∧ (h63 0 10) = (h53 0 10) ∧ (h63 0 11) = (h53 0 11) ∧ (h63 0 12) = (h53 0 12) ∧ (h63 0 13) = (h53 0 13) ∧ (h63 3 1) = (h53 3 1) ∧ (h63 36 8) = (h53 36 8) ∧ (h63 46 3) = (h53 46 3) ∧ (h63 46 4) = (h53 46 4) ∧ (h63 49 4) = (h53 49 4) ∧ (h63 49 5) = (h53 49 5) ∧ (h63 64 0) = (h53 64 0) ∧ (h63 76 0) = (h53 76 0) := f61
            clear f61
            refine ov_goto (tgt := 75) d_196_52 (by decide) ?_
            refine ov_blk (ls2 := [(0, ov_r 0), (1, ov_i m), (2, ov_i b)]) (st2 := [ov_i 1]) (pc2 := 76) b_196_75_1 rfl rfl ?_
            have y4 := mk_at_e (f := h 35) (m := m) ⟨by omega, by omega⟩
            have hr : mk_ans (h 35 0) (h 35 1) (h 35 2) (h 35 3) m b = 1 := by unfold mk_ans; rw [if_pos ⟨by omega, by omega, by omega⟩]
            have gz0 : mk_row 1 m 0 (h 35 0) = h 35 0 := mk_row_1 (fun e => (congrArg (h 35) e).symm.trans (by omega))
            have gz1 : mk_row 1 m 1 (h 35 1) = h 35 1 := mk_row_1 (fun e => (congrArg (h 35) e).symm.trans (by omega))
            have gz2 : mk_row 1 m 2 (h 35 2) = h 35 2 := mk_row_1 (fun e => (congrArg (h 35) e).symm.trans (by omega))
            have gz3 : mk_row 1 m 3 (h 35 3) = h 35 3 := mk_row_1 (fun e => (congrArg (h 35) e).symm.trans (by omega))
            exact ov_retz (st := []) d_196_76 rfl (by omega) ⟨_, rfl, I64, (by show 1 = mk_ans (h 35 0) (h 35 1) (h 35 2) (h 35 3) m b ∧ (1 = 0 ∨ 1 = 1) ∧ (h63 35 0) = mk_row 1 m 0 (h 35 0) ∧ (h63 35 1) = mk_row 1 m 1 (h 35 1) ∧ (h63 35 2) = mk_row 1 m 2 (h 35 2) ∧ (h63 35 3) = mk_row 1 m 3 (h 35 3) ∧ (h63 36 7) = (h 36 7) ∧ (h63 1 1) = (h 1 1) ∧ (h63 90 2) = (h 90 2) ∧ (h63 0 10) = (h 0 10) ∧ (h63 0 11) = (h 0 11) ∧ (h63 0 12) = (h 0 12) ∧ (h63 0 13) = (h 0 13) ∧ (h63 3 1) = (h 3 1) ∧ (h63 36 8) = (h 36 8) ∧ (h63 46 3) = (h 46 3) ∧ (h63 46 4) = (h 46 4) ∧ (h63 49 4) = (h 49 4) ∧ (h63 49 5) = (h 49 5) ∧ (h63 64 0) = (h 64 0) ∧ (h63 76 0) = (h 76 0); omega)⟩
          · have re50 : h 14 m = 20 := by omega
            rw [re50]
            show ov_R u d ov_m196 42 [(0, ov_r 0), (1, ov_i m), (2, ov_i b)] [ov_r 20, ov_r 4] z h (P_OF_mark_0_m F z h m b)
            refine ov_cV (as := [ov_r 20]) (st := []) (d2 := d - 1) d_196_42 lk_OF_322 rfl (Nat.le_of_ble_eq_true rfl) (c := 7) (zb_4 I) (zs_4 I) ⟨by decide, rfl⟩ (by omega) (c_State_copy_4_20 (d - 1) (by omega) U (ov_I_ff (M := 34359738368) I) (ov_kw_ff (ov_kws hw (by decide +kernel)) (by decide +kernel))) ?_
            rintro _ z72 h73 ⟨rfl, I74, f71⟩
            have I74k := I74
            have I74 := ov_I_fr I I74k
            have er75 : h73 35 = h 35 := ov_ff_k I74k (Or.inl (by decide)) (by decide +kernel)
            have ek76 : h73 35 0 = (h 35 0) := congrFun er75 0
            have ek77 : h73 35 1 = (h 35 1) := congrFun er75 1
            have ek78 : h73 35 2 = (h 35 2) := congrFun er75 2
            have ek79 : h73 35 3 = (h 35 3) := congrFun er75 3
            show ov_R u d ov_m196 45 [(0, ov_r 0), (1, ov_i m), (2, ov_i b)] [] z72 h73 (P_OF_mark_0_m F z h m b)
            have f80 : (h73 36 7) = (h 36 7) ∧ (h73 1 1) = (h 1 1) ∧ (h73 90 2) = (h 90 2) ∧ (h73 0 10) = (h 0 10) ∧ (h73 0 11) = (h 0 11) ∧ (h73 0 12) = (h 0 12) ∧ (h73 0 13) = (h 0 13) ∧ (h73 3 1) = (h 3 1) ∧ (h73 36 8) = (h 36 8) ∧ (h73 46 3) = (h 46 3) ∧ (h73 46 4) = (h 46 4) ∧ (h73 49 4) = (h 49 4) ∧ (h73 49 5) = (h 49 5) ∧ (h73 64 0) = (h 64 0) ∧ (h73 76 0) = (h 76 0) := f71
            clear f71
            refine ov_blk (ls2 := [(0, ov_r 0), (1, ov_i m), (2, ov_i b)]) (st2 := [ov_r 0]) (pc2 := 46) b_196_45_1 rfl rfl ?_
            refine ov_getf (v := ov_r 9) d_196_46 fl_OF_35 (zb_0 I74) (zs_0 I74) (congrArg ov_r (rg_0_3 I74)) ?_
            refine ov_cV (as := []) (st := []) (d2 := d - 1) d_196_49 lk_OF_115 rfl (Nat.le_of_ble_eq_true rfl) (c := 3) (zb_9 I74) (zs_9 I74) ⟨by decide, rfl⟩ (by omega) (c_History_clear_9 (d - 1) (by omega) U (ov_I_ff (M := 34359738368) I74) (ov_kw_ff (ov_kws hw (by decide +kernel)) (by decide +kernel))) ?_
            rintro _ z82 h83 ⟨rfl, I84, f81⟩
            have I84k := I84
            have I84 := ov_I_fr I74 I84k
            have er85 : h83 35 = h73 35 := ov_ff_k I84k (Or.inl (by decide)) (by decide +kernel)
            have ek86 : h83 35 0 = (h73 35 0) := congrFun er85 0
            have ek87 : h83 35 1 = (h73 35 1) := congrFun er85 1
            have ek88 : h83 35 2 = (h73 35 2) := congrFun er85 2
            have ek89 : h83 35 3 = (h73 35 3) := congrFun er85 3
            show ov_R u d ov_m196 52 [(0, ov_r 0), (1, ov_i m), (2, ov_i b)] [] z82 h83 (P_OF_mark_0_m F z h m b)
            have f90 : (h83 36 7) = (h73 36 7) ∧ (h83 1 1) = (h73 1 1) ∧ (h83 90 2) = (h73 90 2) ∧ (h83 0 10) = (h73 0 10) ∧ (h83 0 11) = (h73 0 11) ∧ (h83 0 12) = (h73 0 12) ∧ (h83 0 13) = (h73 0 13) ∧ (h83 3 1) = (h73 3 1) ∧ (h83 36 8) = (h73 36 8) ∧ (h83 46 3) = (h73 46 3) ∧ (h83 46 4) = (h73 46 4) ∧ (h83 49 4) = (h73 49 4) ∧ (h83 49 5) = (h73 49 5) ∧ (h83 64 0) = (h73 64 0) ∧ (h83 76 0) = (h73 76 0) := f81
            clear f81
            refine ov_goto (tgt := 75) d_196_52 (by decide) ?_
            refine ov_blk (ls2 := [(0, ov_r 0), (1, ov_i m), (2, ov_i b)]) (st2 := [ov_i 1]) (pc2 := 76) b_196_75_1 rfl rfl ?_
            have y4 := mk_at_e (f := h 35) (m := m) ⟨by omega, by omega⟩
            have hr : mk_ans (h 35 0) (h 35 1) (h 35 2) (h 35 3) m b = 1 := by unfold mk_ans; rw [if_pos ⟨by omega, by omega, by omega⟩]
            have gz0 : mk_row 1 m 0 (h 35 0) = h 35 0 := mk_row_1 (fun e => (congrArg (h 35) e).symm.trans (by omega))
            have gz1 : mk_row 1 m 1 (h 35 1) = h 35 1 := mk_row_1 (fun e => (congrArg (h 35) e).symm.trans (by omega))
            have gz2 : mk_row 1 m 2 (h 35 2) = h 35 2 := mk_row_1 (fun e => (congrArg (h 35) e).symm.trans (by omega))
            have gz3 : mk_row 1 m 3 (h 35 3) = h 35 3 := mk_row_1 (fun e => (congrArg (h 35) e).symm.trans (by omega))
            exact ov_retz (st := []) d_196_76 rfl (by omega) ⟨_, rfl, I84, (by show 1 = mk_ans (h 35 0) (h 35 1) (h 35 2) (h 35 3) m b ∧ (1 = 0 ∨ 1 = 1) ∧ (h83 35 0) = mk_row 1 m 0 (h 35 0) ∧ (h83 35 1) = mk_row 1 m 1 (h 35 1) ∧ (h83 35 2) = mk_row 1 m 2 (h 35 2) ∧ (h83 35 3) = mk_row 1 m 3 (h 35 3) ∧ (h83 36 7) = (h 36 7) ∧ (h83 1 1) = (h 1 1) ∧ (h83 90 2) = (h 90 2) ∧ (h83 0 10) = (h 0 10) ∧ (h83 0 11) = (h 0 11) ∧ (h83 0 12) = (h 0 12) ∧ (h83 0 13) = (h 0 13) ∧ (h83 3 1) = (h 3 1) ∧ (h83 36 8) = (h 36 8) ∧ (h83 46 3) = (h 46 3) ∧ (h83 46 4) = (h 46 4) ∧ (h83 49 4) = (h 49 4) ∧ (h83 49 5) = (h 49 5) ∧ (h83 64 0) = (h 64 0) ∧ (h83 76 0) = (h 76 0); omega)⟩
          · have re50 : h 14 m = 25 := by omega
            rw [re50]
            show ov_R u d ov_m196 42 [(0, ov_r 0), (1, ov_i m), (2, ov_i b)] [ov_r 25, ov_r 4] z h (P_OF_mark_0_m F z h m b)
            refine ov_cV (as := [ov_r 25]) (st := []) (d2 := d - 1) d_196_42 lk_OF_322 rfl (Nat.le_of_ble_eq_true rfl) (c := 7) (zb_4 I) (zs_4 I) ⟨by decide, rfl⟩ (by omega) (c_State_copy_4_25 (d - 1) (by omega) U (ov_I_ff (M := 34359738368) I) (ov_kw_ff (ov_kws hw (by decide +kernel)) (by decide +kernel))) ?_
            rintro _ z92 h93 ⟨rfl, I94, f91⟩
            have I94k := I94
            have I94 := ov_I_fr I I94k
            have er95 : h93 35 = h 35 := ov_ff_k I94k (Or.inl (by decide)) (by decide +kernel)
            have ek96 : h93 35 0 = (h 35 0) := congrFun er95 0
            have ek97 : h93 35 1 = (h 35 1) := congrFun er95 1
            have ek98 : h93 35 2 = (h 35 2) := congrFun er95 2
            have ek99 : h93 35 3 = (h 35 3) := congrFun er95 3
            show ov_R u d ov_m196 45 [(0, ov_r 0), (1, ov_i m), (2, ov_i b)] [] z92 h93 (P_OF_mark_0_m F z h m b)
            have f100 : (h93 36 7) = (h 36 7) ∧ (h93 1 1) = (h 1 1) ∧ (h93 90 2) = (h 90 2) ∧ (h93 0 10) = (h 0 10) ∧ (h93 0 11) = (h 0 11) ∧ (h93 0 12) = (h 0 12) ∧ (h93 0 13) = (h 0 13) ∧ (h93 3 1) = (h 3 1) ∧ (h93 36 8) = (h 36 8) ∧ (h93 46 3) = (h 46 3) ∧ (h93 46 4) = (h 46 4) ∧ (h93 49 4) = (h 49 4) ∧ (h93 49 5) = (h 49 5) ∧ (h93 64 0) = (h 64 0) ∧ (h93 76 0) = (h 76 0) := f91
            clear f91
            refine ov_blk (ls2 := [(0, ov_r 0), (1, ov_i m), (2, ov_i b)]) (st2 := [ov_r 0]) (pc2 := 46) b_196_45_1 rfl rfl ?_
            refine ov_getf (v := ov_r 9) d_196_46 fl_OF_35 (zb_0 I94) (zs_0 I94) (congrArg ov_r (rg_0_3 I94)) ?_
            refine ov_cV (as := []) (st := []) (d2 := d - 1) d_196_49 lk_OF_115 rfl (Nat.le_of_ble_eq_true rfl) (c := 3) (zb_9 I94) (zs_9 I94) ⟨by decide, rfl⟩ (by omega) (c_History_clear_9 (d - 1) (by omega) U (ov_I_ff (M := 34359738368) I94) (ov_kw_ff (ov_kws hw (by decide +kernel)) (by decide +kernel))) ?_
            rintro _ z102 h103 ⟨rfl, I104, f101⟩
            have I104k := I104
            have I104 := ov_I_fr I94 I104k
            have er105 : h103 35 = h93 35 := ov_ff_k I104k (Or.inl (by decide)) (by decide +kernel)
            have ek106 : h103 35 0 = (h93 35 0) := congrFun er105 0
            have ek107 : h103 35 1 = (h93 35 1) := congrFun er105 1
            have ek108 : h103 35 2 = (h93 35 2) := congrFun er105 2
            have ek109 : h103 35 3 = (h93 35 3) := congrFun er105 3
            show ov_R u d ov_m196 52 [(0, ov_r 0), (1, ov_i m), (2, ov_i b)] [] z102 h103 (P_OF_mark_0_m F z h m b)
            have f110 : (h103 36 7) = (h93 36 7) ∧ (h103 1 1) = (h93 1 1) ∧ (h103 90 2) = (h93 90 2) ∧ (h103 0 10) = (h93 0 10) ∧ (h103 0 11) = (h93 0 11) ∧ (h103 0 12) = (h93 0 12) ∧ (h103 0 13) = (h93 0 13) ∧ (h103 3 1) = (h93 3 1) ∧ (h103 36 8) = (h93 36 8) ∧ (h103 46 3) = (h93 46 3) ∧ (h103 46 4) = (h93 46 4) ∧ (h103 49 4) = (h93 49 4) ∧ (h103 49 5) = (h93 49 5) ∧ (h103 64 0) = (h93 64 0) ∧ (h103 76 0) = (h93 76 0) := f101
            clear f101
            refine ov_goto (tgt := 75) d_196_52 (by decide) ?_
            refine ov_blk (ls2 := [(0, ov_r 0), (1, ov_i m), (2, ov_i b)]) (st2 := [ov_i 1]) (pc2 := 76) b_196_75_1 rfl rfl ?_
            have y4 := mk_at_e (f := h 35) (m := m) ⟨by omega, by omega⟩
            have hr : mk_ans (h 35 0) (h 35 1) (h 35 2) (h 35 3) m b = 1 := by unfold mk_ans; rw [if_pos ⟨by omega, by omega, by omega⟩]
            have gz0 : mk_row 1 m 0 (h 35 0) = h 35 0 := mk_row_1 (fun e => (congrArg (h 35) e).symm.trans (by omega))
            have gz1 : mk_row 1 m 1 (h 35 1) = h 35 1 := mk_row_1 (fun e => (congrArg (h 35) e).symm.trans (by omega))
            have gz2 : mk_row 1 m 2 (h 35 2) = h 35 2 := mk_row_1 (fun e => (congrArg (h 35) e).symm.trans (by omega))
            have gz3 : mk_row 1 m 3 (h 35 3) = h 35 3 := mk_row_1 (fun e => (congrArg (h 35) e).symm.trans (by omega))
            exact ov_retz (st := []) d_196_76 rfl (by omega) ⟨_, rfl, I104, (by show 1 = mk_ans (h 35 0) (h 35 1) (h 35 2) (h 35 3) m b ∧ (1 = 0 ∨ 1 = 1) ∧ (h103 35 0) = mk_row 1 m 0 (h 35 0) ∧ (h103 35 1) = mk_row 1 m 1 (h 35 1) ∧ (h103 35 2) = mk_row 1 m 2 (h 35 2) ∧ (h103 35 3) = mk_row 1 m 3 (h 35 3) ∧ (h103 36 7) = (h 36 7) ∧ (h103 1 1) = (h 1 1) ∧ (h103 90 2) = (h 90 2) ∧ (h103 0 10) = (h 0 10) ∧ (h103 0 11) = (h 0 11) ∧ (h103 0 12) = (h 0 12) ∧ (h103 0 13) = (h 0 13) ∧ (h103 3 1) = (h 3 1) ∧ (h103 36 8) = (h 36 8) ∧ (h103 46 3) = (h 46 3) ∧ (h103 46 4) = (h 46 4) ∧ (h103 49 4) = (h 49 4) ∧ (h103 49 5) = (h 49 5) ∧ (h103 64 0) = (h 64 0) ∧ (h103 76 0) = (h 76 0); omega)⟩
          · have re50 : h 14 m = 30 := by omega
            rw [re50]
            show ov_R u d ov_m196 42 [(0, ov_r 0), (1, ov_i m), (2, ov_i b)] [ov_r 30, ov_r 4] z h (P_OF_mark_0_m F z h m b)
            refine ov_cV (as := [ov_r 30]) (st := []) (d2 := d - 1) d_196_42 lk_OF_322 rfl (Nat.le_of_ble_eq_true rfl) (c := 7) (zb_4 I) (zs_4 I) ⟨by decide, rfl⟩ (by omega) (c_State_copy_4_30 (d - 1) (by omega) U (ov_I_ff (M := 34359738368) I) (ov_kw_ff (ov_kws hw (by decide +kernel)) (by decide +kernel))) ?_
            rintro _ z112 h113 ⟨rfl, I114, f111⟩
            have I114k := I114
            have I114 := ov_I_fr I I114k
            have er115 : h113 35 = h 35 := ov_ff_k I114k (Or.inl (by decide)) (by decide +kernel)
            have ek116 : h113 35 0 = (h 35 0) := congrFun er115 0
            have ek117 : h113 35 1 = (h 35 1) := congrFun er115 1
            have ek118 : h113 35 2 = (h 35 2) := congrFun er115 2
            have ek119 : h113 35 3 = (h 35 3) := congrFun er115 3
            show ov_R u d ov_m196 45 [(0, ov_r 0), (1, ov_i m), (2, ov_i b)] [] z112 h113 (P_OF_mark_0_m F z h m b)
            have f120 : (h113 36 7) = (h 36 7) ∧ (h113 1 1) = (h 1 1) ∧ (h113 90 2) = (h 90 2) ∧ (h113 0 10) = (h 0 10) ∧ (h113 0 11) = (h 0 11) ∧ (h113 0 12) = (h 0 12) ∧ (h113 0 13) = (h 0 13) ∧ (h113 3 1) = (h 3 1) ∧ (h113 36 8) = (h 36 8) ∧ (h113 46 3) = (h 46 3) ∧ (h113 46 4) = (h 46 4) ∧ (h113 49 4) = (h 49 4) ∧ (h113 49 5) = (h 49 5) ∧ (h113 64 0) = (h 64 0) ∧ (h113 76 0) = (h 76 0) := f111
            clear f111
            refine ov_blk (ls2 := [(0, ov_r 0), (1, ov_i m), (2, ov_i b)]) (st2 := [ov_r 0]) (pc2 := 46) b_196_45_1 rfl rfl ?_
            refine ov_getf (v := ov_r 9) d_196_46 fl_OF_35 (zb_0 I114) (zs_0 I114) (congrArg ov_r (rg_0_3 I114)) ?_
            refine ov_cV (as := []) (st := []) (d2 := d - 1) d_196_49 lk_OF_115 rfl (Nat.le_of_ble_eq_true rfl) (c := 3) (zb_9 I114) (zs_9 I114) ⟨by decide, rfl⟩ (by omega) (c_History_clear_9 (d - 1) (by omega) U (ov_I_ff (M := 34359738368) I114) (ov_kw_ff (ov_kws hw (by decide +kernel)) (by decide +kernel))) ?_
            rintro _ z122 h123 ⟨rfl, I124, f121⟩
            have I124k := I124
            have I124 := ov_I_fr I114 I124k
            have er125 : h123 35 = h113 35 := ov_ff_k I124k (Or.inl (by decide)) (by decide +kernel)
            have ek126 : h123 35 0 = (h113 35 0) := congrFun er125 0
            have ek127 : h123 35 1 = (h113 35 1) := congrFun er125 1
            have ek128 : h123 35 2 = (h113 35 2) := congrFun er125 2
            have ek129 : h123 35 3 = (h113 35 3) := congrFun er125 3
            show ov_R u d ov_m196 52 [(0, ov_r 0), (1, ov_i m), (2, ov_i b)] [] z122 h123 (P_OF_mark_0_m F z h m b)
            have f130 : (h123 36 7) = (h113 36 7) ∧ (h123 1 1) = (h113 1 1) ∧ (h123 90 2) = (h113 90 2) ∧ (h123 0 10) = (h113 0 10) ∧ (h123 0 11) = (h113 0 11) ∧ (h123 0 12) = (h113 0 12) ∧ (h123 0 13) = (h113 0 13) ∧ (h123 3 1) = (h113 3 1) ∧ (h123 36 8) = (h113 36 8) ∧ (h123 46 3) = (h113 46 3) ∧ (h123 46 4) = (h113 46 4) ∧ (h123 49 4) = (h113 49 4) ∧ (h123 49 5) = (h113 49 5) ∧ (h123 64 0) = (h113 64 0) ∧ (h123 76 0) = (h113 76 0) := f121
            clear f121
            refine ov_goto (tgt := 75) d_196_52 (by decide) ?_
            refine ov_blk (ls2 := [(0, ov_r 0), (1, ov_i m), (2, ov_i b)]) (st2 := [ov_i 1]) (pc2 := 76) b_196_75_1 rfl rfl ?_
            have y4 := mk_at_e (f := h 35) (m := m) ⟨by omega, by omega⟩
            have hr : mk_ans (h 35 0) (h 35 1) (h 35 2) (h 35 3) m b = 1 := by unfold mk_ans; rw [if_pos ⟨by omega, by omega, by omega⟩]
            have gz0 : mk_row 1 m 0 (h 35 0) = h 35 0 := mk_row_1 (fun e => (congrArg (h 35) e).symm.trans (by omega))
            have gz1 : mk_row 1 m 1 (h 35 1) = h 35 1 := mk_row_1 (fun e => (congrArg (h 35) e).symm.trans (by omega))
            have gz2 : mk_row 1 m 2 (h 35 2) = h 35 2 := mk_row_1 (fun e => (congrArg (h 35) e).symm.trans (by omega))
            have gz3 : mk_row 1 m 3 (h 35 3) = h 35 3 := mk_row_1 (fun e => (congrArg (h 35) e).symm.trans (by omega))
            exact ov_retz (st := []) d_196_76 rfl (by omega) ⟨_, rfl, I124, (by show 1 = mk_ans (h 35 0) (h 35 1) (h 35 2) (h 35 3) m b ∧ (1 = 0 ∨ 1 = 1) ∧ (h123 35 0) = mk_row 1 m 0 (h 35 0) ∧ (h123 35 1) = mk_row 1 m 1 (h 35 1) ∧ (h123 35 2) = mk_row 1 m 2 (h 35 2) ∧ (h123 35 3) = mk_row 1 m 3 (h 35 3) ∧ (h123 36 7) = (h 36 7) ∧ (h123 1 1) = (h 1 1) ∧ (h123 90 2) = (h 90 2) ∧ (h123 0 10) = (h 0 10) ∧ (h123 0 11) = (h 0 11) ∧ (h123 0 12) = (h 0 12) ∧ (h123 0 13) = (h 0 13) ∧ (h123 3 1) = (h 3 1) ∧ (h123 36 8) = (h 36 8) ∧ (h123 46 3) = (h 46 3) ∧ (h123 46 4) = (h 46 4) ∧ (h123 49 4) = (h 49 4) ∧ (h123 49 5) = (h 49 5) ∧ (h123 64 0) = (h 64 0) ∧ (h123 76 0) = (h 76 0); omega)⟩
      · skip
        refine ov_blk (ls2 := [(0, ov_r 0), (1, ov_i m), (2, ov_i b)]) (st2 := [ov_r 0]) (pc2 := 18) b_196_17_1 rfl rfl ?_
        refine ov_getf (v := ov_r 35) d_196_18 fl_OF_43 (zb_0 I) (zs_0 I) (congrArg ov_r (rg_0_5 I)) ?_
        refine ov_blk (ls2 := [(0, ov_r 0), (1, ov_i m), (2, ov_i b)]) (st2 := [ov_i m, ov_r 35]) (pc2 := 22) b_196_21_1 rfl rfl ?_
        refine ov_zald d_196_22 (zb_35 I) (zs_35 I) (by omega) ?_
        have g131 := ra_35 I m
        refine ov_ifne (tgt := 28) d_196_23 (by decide) (by omega) (fun c132 => ?_) (fun c132 => ?_)
        · skip
          refine ov_blk (ls2 := [(0, ov_r 0), (1, ov_i m), (2, ov_i b)]) (st2 := [ov_i b]) (pc2 := 29) b_196_28_1 rfl rfl ?_
          refine ov_ifeq (tgt := 55) d_196_29 (by decide) (by omega) (fun c133 => ?_) (fun c133 => ?_)
          · skip
            refine ov_blk (ls2 := [(0, ov_r 0), (1, ov_i m), (2, ov_i b)]) (st2 := [ov_r 0]) (pc2 := 56) b_196_55_1 rfl rfl ?_
            refine ov_getf (v := ov_r 14) d_196_56 fl_OF_39 (zb_0 I) (zs_0 I) (congrArg ov_r (rg_0_4 I)) ?_
            refine ov_blk (ls2 := [(0, ov_r 0), (1, ov_i m), (2, ov_i b)]) (st2 := [ov_i m, ov_r 14]) (pc2 := 60) b_196_59_1 rfl rfl ?_
            refine ov_aald d_196_60 (zb_14 I) (zs_14 I) (by omega) ?_
            have me134 : m = 0 ∨ m = 1 ∨ m = 2 ∨ m = 3 := by omega
            have ne134 := ra_14 I m
            rcases me134 with e134 | e134 | e134 | e134
            · have re134 : h 14 m = 15 := by omega
              rw [re134]
              show ov_R u d ov_m196 61 [(0, ov_r 0), (1, ov_i m), (2, ov_i b)] [ov_r 15] z h (P_OF_mark_0_m F z h m b)
              refine ov_blk (ls2 := [(0, ov_r 0), (1, ov_i m), (2, ov_i b)]) (st2 := [ov_r 0, ov_r 15]) (pc2 := 62) b_196_61_1 rfl rfl ?_
              refine ov_getf (v := ov_r 4) d_196_62 fl_OF_28 (zb_0 I) (zs_0 I) (congrArg ov_r (rg_0_2 I)) ?_
              refine ov_cV (as := [ov_r 4]) (st := []) (d2 := d - 1) d_196_65 lk_OF_322 rfl (Nat.le_of_ble_eq_true rfl) (c := 7) (zb_15 I) (zs_15 I) ⟨by decide, rfl⟩ (by omega) (c_State_copy_15_4 (d - 1) (by omega) U (ov_I_ff (M := 34359738368) I) (ov_kw_ff (ov_kws hw (by decide +kernel)) (by decide +kernel))) ?_
              rintro _ z136 h137 ⟨rfl, I138, f135⟩
              have I138k := I138
              have I138 := ov_I_fr I I138k
              have er139 : h137 35 = h 35 := ov_ff_k I138k (Or.inl (by decide)) (by decide +kernel)
              have ek140 : h137 35 0 = (h 35 0) := congrFun er139 0
              have ek141 : h137 35 1 = (h 35 1) := congrFun er139 1
              have ek142 : h137 35 2 = (h 35 2) := congrFun er139 2
              have ek143 : h137 35 3 = (h 35 3) := congrFun er139 3
              show ov_R u d ov_m196 68 [(0, ov_r 0), (1, ov_i m), (2, ov_i b)] [] z136 h137 (P_OF_mark_0_m F z h m b)
              have f144 : (h137 36 7) = (h 36 7) ∧ (h137 1 1) = (h 1 1) ∧ (h137 90 2) = (h 90 2) ∧ (h137 0 10) = (h 0 10) ∧ (h137 0 11) = (h 0 11) ∧ (h137 0 12) = (h 0 12) ∧ (h137 0 13) = (h 0 13) ∧ (h137 3 1) = (h 3 1) ∧ (h137 36 8) = (h 36 8) ∧ (h137 46 3) = (h 46 3) ∧ (h137 46 4) = (h 46 4) ∧ (h137 49 4) = (h 49 4) ∧ (h137 49 5) = (h 49 5) ∧ (h137 64 0) = (h 64 0) ∧ (h137 76 0) = (h 76 0) := f135
              clear f135
              refine ov_blk (ls2 := [(0, ov_r 0), (1, ov_i m), (2, ov_i b)]) (st2 := [ov_r 0]) (pc2 := 69) b_196_68_1 rfl rfl ?_
              refine ov_getf (v := ov_r 35) d_196_69 fl_OF_43 (zb_0 I138) (zs_0 I138) (congrArg ov_r (rg_0_5 I138)) ?_
              refine ov_blk (ls2 := [(0, ov_r 0), (1, ov_i m), (2, ov_i b)]) (st2 := [ov_i 1, ov_i m, ov_r 35]) (pc2 := 74) b_196_72_2 rfl rfl ?_
              refine ov_zast d_196_74 (zb_35 I138) (zs_35 I138) (by omega) (by omega) ?_
              have I145 := ua_35 (k := m) (x := 1) I138 (by omega) (hw 35 (by decide +kernel))
              refine ov_blk (ls2 := [(0, ov_r 0), (1, ov_i m), (2, ov_i b)]) (st2 := [ov_i 1]) (pc2 := 76) b_196_75_1 rfl rfl ?_
              have y4 := mk_at_e (f := h 35) (m := m) ⟨by omega, by omega⟩
              have hr : mk_ans (h 35 0) (h 35 1) (h 35 2) (h 35 3) m b = 1 := by unfold mk_ans; rw [if_pos ⟨by omega, by omega, by omega⟩]
              have gz0 : ((ov_up h137 35 m 1) 35 0) = mk_row 1 m 0 (h 35 0) := by show ov_up h137 35 m 1 35 0 = _; rw [ov_up_row, mk_row_u, show h137 35 0 = h 35 0 by omega]
              have gz1 : ((ov_up h137 35 m 1) 35 1) = mk_row 1 m 1 (h 35 1) := by show ov_up h137 35 m 1 35 1 = _; rw [ov_up_row, mk_row_u, show h137 35 1 = h 35 1 by omega]
              have gz2 : ((ov_up h137 35 m 1) 35 2) = mk_row 1 m 2 (h 35 2) := by show ov_up h137 35 m 1 35 2 = _; rw [ov_up_row, mk_row_u, show h137 35 2 = h 35 2 by omega]
              have gz3 : ((ov_up h137 35 m 1) 35 3) = mk_row 1 m 3 (h 35 3) := by show ov_up h137 35 m 1 35 3 = _; rw [ov_up_row, mk_row_u, show h137 35 3 = h 35 3 by omega]
              exact ov_retz (st := []) d_196_76 rfl (by omega) ⟨_, rfl, I145, (by show 1 = mk_ans (h 35 0) (h 35 1) (h 35 2) (h 35 3) m b ∧ (1 = 0 ∨ 1 = 1) ∧ ((ov_up h137 35 m 1) 35 0) = mk_row 1 m 0 (h 35 0) ∧ ((ov_up h137 35 m 1) 35 1) = mk_row 1 m 1 (h 35 1) ∧ ((ov_up h137 35 m 1) 35 2) = mk_row 1 m 2 (h 35 2) ∧ ((ov_up h137 35 m 1) 35 3) = mk_row 1 m 3 (h 35 3) ∧ (h137 36 7) = (h 36 7) ∧ (h137 1 1) = (h 1 1) ∧ (h137 90 2) = (h 90 2) ∧ (h137 0 10) = (h 0 10) ∧ (h137 0 11) = (h 0 11) ∧ (h137 0 12) = (h 0 12) ∧ (h137 0 13) = (h 0 13) ∧ (h137 3 1) = (h 3 1) ∧ (h137 36 8) = (h 36 8) ∧ (h137 46 3) = (h 46 3) ∧ (h137 46 4) = (h 46 4) ∧ (h137 49 4) = (h 49 4) ∧ (h137 49 5) = (h 49 5) ∧ (h137 64 0) = (h 64 0) ∧ (h137 76 0) = (h 76 0); omega)⟩
            · have re134 : h 14 m = 20 := by omega
              rw [re134]
              show ov_R u d ov_m196 61 [(0, ov_r 0), (1, ov_i m), (2, ov_i b)] [ov_r 20] z h (P_OF_mark_0_m F z h m b)
              refine ov_blk (ls2 := [(0, ov_r 0), (1, ov_i m), (2, ov_i b)]) (st2 := [ov_r 0, ov_r 20]) (pc2 := 62) b_196_61_1 rfl rfl ?_
              refine ov_getf (v := ov_r 4) d_196_62 fl_OF_28 (zb_0 I) (zs_0 I) (congrArg ov_r (rg_0_2 I)) ?_
              refine ov_cV (as := [ov_r 4]) (st := []) (d2 := d - 1) d_196_65 lk_OF_322 rfl (Nat.le_of_ble_eq_true rfl) (c := 7) (zb_20 I) (zs_20 I) ⟨by decide, rfl⟩ (by omega) (c_State_copy_20_4 (d - 1) (by omega) U (ov_I_ff (M := 34359738368) I) (ov_kw_ff (ov_kws hw (by decide +kernel)) (by decide +kernel))) ?_
              rintro _ z147 h148 ⟨rfl, I149, f146⟩
              have I149k := I149
              have I149 := ov_I_fr I I149k
              have er150 : h148 35 = h 35 := ov_ff_k I149k (Or.inl (by decide)) (by decide +kernel)
              have ek151 : h148 35 0 = (h 35 0) := congrFun er150 0
              have ek152 : h148 35 1 = (h 35 1) := congrFun er150 1
              have ek153 : h148 35 2 = (h 35 2) := congrFun er150 2
              have ek154 : h148 35 3 = (h 35 3) := congrFun er150 3
              show ov_R u d ov_m196 68 [(0, ov_r 0), (1, ov_i m), (2, ov_i b)] [] z147 h148 (P_OF_mark_0_m F z h m b)
              have f155 : (h148 36 7) = (h 36 7) ∧ (h148 1 1) = (h 1 1) ∧ (h148 90 2) = (h 90 2) ∧ (h148 0 10) = (h 0 10) ∧ (h148 0 11) = (h 0 11) ∧ (h148 0 12) = (h 0 12) ∧ (h148 0 13) = (h 0 13) ∧ (h148 3 1) = (h 3 1) ∧ (h148 36 8) = (h 36 8) ∧ (h148 46 3) = (h 46 3) ∧ (h148 46 4) = (h 46 4) ∧ (h148 49 4) = (h 49 4) ∧ (h148 49 5) = (h 49 5) ∧ (h148 64 0) = (h 64 0) ∧ (h148 76 0) = (h 76 0) := f146
              clear f146
              refine ov_blk (ls2 := [(0, ov_r 0), (1, ov_i m), (2, ov_i b)]) (st2 := [ov_r 0]) (pc2 := 69) b_196_68_1 rfl rfl ?_
              refine ov_getf (v := ov_r 35) d_196_69 fl_OF_43 (zb_0 I149) (zs_0 I149) (congrArg ov_r (rg_0_5 I149)) ?_
              refine ov_blk (ls2 := [(0, ov_r 0), (1, ov_i m), (2, ov_i b)]) (st2 := [ov_i 1, ov_i m, ov_r 35]) (pc2 := 74) b_196_72_2 rfl rfl ?_
              refine ov_zast d_196_74 (zb_35 I149) (zs_35 I149) (by omega) (by omega) ?_
              have I156 := ua_35 (k := m) (x := 1) I149 (by omega) (hw 35 (by decide +kernel))
              refine ov_blk (ls2 := [(0, ov_r 0), (1, ov_i m), (2, ov_i b)]) (st2 := [ov_i 1]) (pc2 := 76) b_196_75_1 rfl rfl ?_
              have y4 := mk_at_e (f := h 35) (m := m) ⟨by omega, by omega⟩
              have hr : mk_ans (h 35 0) (h 35 1) (h 35 2) (h 35 3) m b = 1 := by unfold mk_ans; rw [if_pos ⟨by omega, by omega, by omega⟩]
              have gz0 : ((ov_up h148 35 m 1) 35 0) = mk_row 1 m 0 (h 35 0) := by show ov_up h148 35 m 1 35 0 = _; rw [ov_up_row, mk_row_u, show h148 35 0 = h 35 0 by omega]
              have gz1 : ((ov_up h148 35 m 1) 35 1) = mk_row 1 m 1 (h 35 1) := by show ov_up h148 35 m 1 35 1 = _; rw [ov_up_row, mk_row_u, show h148 35 1 = h 35 1 by omega]
              have gz2 : ((ov_up h148 35 m 1) 35 2) = mk_row 1 m 2 (h 35 2) := by show ov_up h148 35 m 1 35 2 = _; rw [ov_up_row, mk_row_u, show h148 35 2 = h 35 2 by omega]
              have gz3 : ((ov_up h148 35 m 1) 35 3) = mk_row 1 m 3 (h 35 3) := by show ov_up h148 35 m 1 35 3 = _; rw [ov_up_row, mk_row_u, show h148 35 3 = h 35 3 by omega]
              exact ov_retz (st := []) d_196_76 rfl (by omega) ⟨_, rfl, I156, (by show 1 = mk_ans (h 35 0) (h 35 1) (h 35 2) (h 35 3) m b ∧ (1 = 0 ∨ 1 = 1) ∧ ((ov_up h148 35 m 1) 35 0) = mk_row 1 m 0 (h 35 0) ∧ ((ov_up h148 35 m 1) 35 1) = mk_row 1 m 1 (h 35 1) ∧ ((ov_up h148 35 m 1) 35 2) = mk_row 1 m 2 (h 35 2) ∧ ((ov_up h148 35 m 1) 35 3) = mk_row 1 m 3 (h 35 3) ∧ (h148 36 7) = (h 36 7) ∧ (h148 1 1) = (h 1 1) ∧ (h148 90 2) = (h 90 2) ∧ (h148 0 10) = (h 0 10) ∧ (h148 0 11) = (h 0 11) ∧ (h148 0 12) = (h 0 12) ∧ (h148 0 13) = (h 0 13) ∧ (h148 3 1) = (h 3 1) ∧ (h148 36 8) = (h 36 8) ∧ (h148 46 3) = (h 46 3) ∧ (h148 46 4) = (h 46 4) ∧ (h148 49 4) = (h 49 4) ∧ (h148 49 5) = (h 49 5) ∧ (h148 64 0) = (h 64 0) ∧ (h148 76 0) = (h 76 0); omega)⟩
            · have re134 : h 14 m = 25 := by omega
              rw [re134]
              show ov_R u d ov_m196 61 [(0, ov_r 0), (1, ov_i m), (2, ov_i b)] [ov_r 25] z h (P_OF_mark_0_m F z h m b)
              refine ov_blk (ls2 := [(0, ov_r 0), (1, ov_i m), (2, ov_i b)]) (st2 := [ov_r 0, ov_r 25]) (pc2 := 62) b_196_61_1 rfl rfl ?_
              refine ov_getf (v := ov_r 4) d_196_62 fl_OF_28 (zb_0 I) (zs_0 I) (congrArg ov_r (rg_0_2 I)) ?_
              refine ov_cV (as := [ov_r 4]) (st := []) (d2 := d - 1) d_196_65 lk_OF_322 rfl (Nat.le_of_ble_eq_true rfl) (c := 7) (zb_25 I) (zs_25 I) ⟨by decide, rfl⟩ (by omega) (c_State_copy_25_4 (d - 1) (by omega) U (ov_I_ff (M := 34359738368) I) (ov_kw_ff (ov_kws hw (by decide +kernel)) (by decide +kernel))) ?_
              rintro _ z158 h159 ⟨rfl, I160, f157⟩
              have I160k := I160
              have I160 := ov_I_fr I I160k
              have er161 : h159 35 = h 35 := ov_ff_k I160k (Or.inl (by decide)) (by decide +kernel)
              have ek162 : h159 35 0 = (h 35 0) := congrFun er161 0
              have ek163 : h159 35 1 = (h 35 1) := congrFun er161 1
              have ek164 : h159 35 2 = (h 35 2) := congrFun er161 2
              have ek165 : h159 35 3 = (h 35 3) := congrFun er161 3
              show ov_R u d ov_m196 68 [(0, ov_r 0), (1, ov_i m), (2, ov_i b)] [] z158 h159 (P_OF_mark_0_m F z h m b)
              have f166 : (h159 36 7) = (h 36 7) ∧ (h159 1 1) = (h 1 1) ∧ (h159 90 2) = (h 90 2) ∧ (h159 0 10) = (h 0 10) ∧ (h159 0 11) = (h 0 11) ∧ (h159 0 12) = (h 0 12) ∧ (h159 0 13) = (h 0 13) ∧ (h159 3 1) = (h 3 1) ∧ (h159 36 8) = (h 36 8) ∧ (h159 46 3) = (h 46 3) ∧ (h159 46 4) = (h 46 4) ∧ (h159 49 4) = (h 49 4) ∧ (h159 49 5) = (h 49 5) ∧ (h159 64 0) = (h 64 0) ∧ (h159 76 0) = (h 76 0) := f157
              clear f157
              refine ov_blk (ls2 := [(0, ov_r 0), (1, ov_i m), (2, ov_i b)]) (st2 := [ov_r 0]) (pc2 := 69) b_196_68_1 rfl rfl ?_
              refine ov_getf (v := ov_r 35) d_196_69 fl_OF_43 (zb_0 I160) (zs_0 I160) (congrArg ov_r (rg_0_5 I160)) ?_
              refine ov_blk (ls2 := [(0, ov_r 0), (1, ov_i m), (2, ov_i b)]) (st2 := [ov_i 1, ov_i m, ov_r 35]) (pc2 := 74) b_196_72_2 rfl rfl ?_
              refine ov_zast d_196_74 (zb_35 I160) (zs_35 I160) (by omega) (by omega) ?_
              have I167 := ua_35 (k := m) (x := 1) I160 (by omega) (hw 35 (by decide +kernel))
              refine ov_blk (ls2 := [(0, ov_r 0), (1, ov_i m), (2, ov_i b)]) (st2 := [ov_i 1]) (pc2 := 76) b_196_75_1 rfl rfl ?_
              have y4 := mk_at_e (f := h 35) (m := m) ⟨by omega, by omega⟩
              have hr : mk_ans (h 35 0) (h 35 1) (h 35 2) (h 35 3) m b = 1 := by unfold mk_ans; rw [if_pos ⟨by omega, by omega, by omega⟩]
              have gz0 : ((ov_up h159 35 m 1) 35 0) = mk_row 1 m 0 (h 35 0) := by show ov_up h159 35 m 1 35 0 = _; rw [ov_up_row, mk_row_u, show h159 35 0 = h 35 0 by omega]
              have gz1 : ((ov_up h159 35 m 1) 35 1) = mk_row 1 m 1 (h 35 1) := by show ov_up h159 35 m 1 35 1 = _; rw [ov_up_row, mk_row_u, show h159 35 1 = h 35 1 by omega]
              have gz2 : ((ov_up h159 35 m 1) 35 2) = mk_row 1 m 2 (h 35 2) := by show ov_up h159 35 m 1 35 2 = _; rw [ov_up_row, mk_row_u, show h159 35 2 = h 35 2 by omega]
              have gz3 : ((ov_up h159 35 m 1) 35 3) = mk_row 1 m 3 (h 35 3) := by show ov_up h159 35 m 1 35 3 = _; rw [ov_up_row, mk_row_u, show h159 35 3 = h 35 3 by omega]
              exact ov_retz (st := []) d_196_76 rfl (by omega) ⟨_, rfl, I167, (by show 1 = mk_ans (h 35 0) (h 35 1) (h 35 2) (h 35 3) m b ∧ (1 = 0 ∨ 1 = 1) ∧ ((ov_up h159 35 m 1) 35 0) = mk_row 1 m 0 (h 35 0) ∧ ((ov_up h159 35 m 1) 35 1) = mk_row 1 m 1 (h 35 1) ∧ ((ov_up h159 35 m 1) 35 2) = mk_row 1 m 2 (h 35 2) ∧ ((ov_up h159 35 m 1) 35 3) = mk_row 1 m 3 (h 35 3) ∧ (h159 36 7) = (h 36 7) ∧ (h159 1 1) = (h 1 1) ∧ (h159 90 2) = (h 90 2) ∧ (h159 0 10) = (h 0 10) ∧ (h159 0 11) = (h 0 11) ∧ (h159 0 12) = (h 0 12) ∧ (h159 0 13) = (h 0 13) ∧ (h159 3 1) = (h 3 1) ∧ (h159 36 8) = (h 36 8) ∧ (h159 46 3) = (h 46 3) ∧ (h159 46 4) = (h 46 4) ∧ (h159 49 4) = (h 49 4) ∧ (h159 49 5) = (h 49 5) ∧ (h159 64 0) = (h 64 0) ∧ (h159 76 0) = (h 76 0); omega)⟩
            · have re134 : h 14 m = 30 := by omega
              rw [re134]
              show ov_R u d ov_m196 61 [(0, ov_r 0), (1, ov_i m), (2, ov_i b)] [ov_r 30] z h (P_OF_mark_0_m F z h m b)
              refine ov_blk (ls2 := [(0, ov_r 0), (1, ov_i m), (2, ov_i b)]) (st2 := [ov_r 0, ov_r 30]) (pc2 := 62) b_196_61_1 rfl rfl ?_
              refine ov_getf (v := ov_r 4) d_196_62 fl_OF_28 (zb_0 I) (zs_0 I) (congrArg ov_r (rg_0_2 I)) ?_
              refine ov_cV (as := [ov_r 4]) (st := []) (d2 := d - 1) d_196_65 lk_OF_322 rfl (Nat.le_of_ble_eq_true rfl) (c := 7) (zb_30 I) (zs_30 I) ⟨by decide, rfl⟩ (by omega) (c_State_copy_30_4 (d - 1) (by omega) U (ov_I_ff (M := 34359738368) I) (ov_kw_ff (ov_kws hw (by decide +kernel)) (by decide +kernel))) ?_
              rintro _ z169 h170 ⟨rfl, I171, f168⟩
              have I171k := I171
              have I171 := ov_I_fr I I171k
              have er172 : h170 35 = h 35 := ov_ff_k I171k (Or.inl (by decide)) (by decide +kernel)
              have ek173 : h170 35 0 = (h 35 0) := congrFun er172 0
              have ek174 : h170 35 1 = (h 35 1) := congrFun er172 1
              have ek175 : h170 35 2 = (h 35 2) := congrFun er172 2
              have ek176 : h170 35 3 = (h 35 3) := congrFun er172 3
              show ov_R u d ov_m196 68 [(0, ov_r 0), (1, ov_i m), (2, ov_i b)] [] z169 h170 (P_OF_mark_0_m F z h m b)
              have f177 : (h170 36 7) = (h 36 7) ∧ (h170 1 1) = (h 1 1) ∧ (h170 90 2) = (h 90 2) ∧ (h170 0 10) = (h 0 10) ∧ (h170 0 11) = (h 0 11) ∧ (h170 0 12) = (h 0 12) ∧ (h170 0 13) = (h 0 13) ∧ (h170 3 1) = (h 3 1) ∧ (h170 36 8) = (h 36 8) ∧ (h170 46 3) = (h 46 3) ∧ (h170 46 4) = (h 46 4) ∧ (h170 49 4) = (h 49 4) ∧ (h170 49 5) = (h 49 5) ∧ (h170 64 0) = (h 64 0) ∧ (h170 76 0) = (h 76 0) := f168
              clear f168
              refine ov_blk (ls2 := [(0, ov_r 0), (1, ov_i m), (2, ov_i b)]) (st2 := [ov_r 0]) (pc2 := 69) b_196_68_1 rfl rfl ?_
              refine ov_getf (v := ov_r 35) d_196_69 fl_OF_43 (zb_0 I171) (zs_0 I171) (congrArg ov_r (rg_0_5 I171)) ?_
              refine ov_blk (ls2 := [(0, ov_r 0), (1, ov_i m), (2, ov_i b)]) (st2 := [ov_i 1, ov_i m, ov_r 35]) (pc2 := 74) b_196_72_2 rfl rfl ?_
              refine ov_zast d_196_74 (zb_35 I171) (zs_35 I171) (by omega) (by omega) ?_
              have I178 := ua_35 (k := m) (x := 1) I171 (by omega) (hw 35 (by decide +kernel))
              refine ov_blk (ls2 := [(0, ov_r 0), (1, ov_i m), (2, ov_i b)]) (st2 := [ov_i 1]) (pc2 := 76) b_196_75_1 rfl rfl ?_
              have y4 := mk_at_e (f := h 35) (m := m) ⟨by omega, by omega⟩
              have hr : mk_ans (h 35 0) (h 35 1) (h 35 2) (h 35 3) m b = 1 := by unfold mk_ans; rw [if_pos ⟨by omega, by omega, by omega⟩]
              have gz0 : ((ov_up h170 35 m 1) 35 0) = mk_row 1 m 0 (h 35 0) := by show ov_up h170 35 m 1 35 0 = _; rw [ov_up_row, mk_row_u, show h170 35 0 = h 35 0 by omega]
              have gz1 : ((ov_up h170 35 m 1) 35 1) = mk_row 1 m 1 (h 35 1) := by show ov_up h170 35 m 1 35 1 = _; rw [ov_up_row, mk_row_u, show h170 35 1 = h 35 1 by omega]
              have gz2 : ((ov_up h170 35 m 1) 35 2) = mk_row 1 m 2 (h 35 2) := by show ov_up h170 35 m 1 35 2 = _; rw [ov_up_row, mk_row_u, show h170 35 2 = h 35 2 by omega]
              have gz3 : ((ov_up h170 35 m 1) 35 3) = mk_row 1 m 3 (h 35 3) := by show ov_up h170 35 m 1 35 3 = _; rw [ov_up_row, mk_row_u, show h170 35 3 = h 35 3 by omega]
              exact ov_retz (st := []) d_196_76 rfl (by omega) ⟨_, rfl, I178, (by show 1 = mk_ans (h 35 0) (h 35 1) (h 35 2) (h 35 3) m b ∧ (1 = 0 ∨ 1 = 1) ∧ ((ov_up h170 35 m 1) 35 0) = mk_row 1 m 0 (h 35 0) ∧ ((ov_up h170 35 m 1) 35 1) = mk_row 1 m 1 (h 35 1) ∧ ((ov_up h170 35 m 1) 35 2) = mk_row 1 m 2 (h 35 2) ∧ ((ov_up h170 35 m 1) 35 3) = mk_row 1 m 3 (h 35 3) ∧ (h170 36 7) = (h 36 7) ∧ (h170 1 1) = (h 1 1) ∧ (h170 90 2) = (h 90 2) ∧ (h170 0 10) = (h 0 10) ∧ (h170 0 11) = (h 0 11) ∧ (h170 0 12) = (h 0 12) ∧ (h170 0 13) = (h 0 13) ∧ (h170 3 1) = (h 3 1) ∧ (h170 36 8) = (h 36 8) ∧ (h170 46 3) = (h 46 3) ∧ (h170 46 4) = (h 46 4) ∧ (h170 49 4) = (h 49 4) ∧ (h170 49 5) = (h 49 5) ∧ (h170 64 0) = (h 64 0) ∧ (h170 76 0) = (h 76 0); omega)⟩
          · skip
            refine ov_blk (ls2 := [(0, ov_r 0), (1, ov_i m), (2, ov_i b)]) (st2 := [ov_r 0]) (pc2 := 33) b_196_32_1 rfl rfl ?_
            refine ov_getf (v := ov_r 4) d_196_33 fl_OF_28 (zb_0 I) (zs_0 I) (congrArg ov_r (rg_0_2 I)) ?_
            refine ov_blk (ls2 := [(0, ov_r 0), (1, ov_i m), (2, ov_i b)]) (st2 := [ov_r 0, ov_r 4]) (pc2 := 37) b_196_36_1 rfl rfl ?_
            refine ov_getf (v := ov_r 14) d_196_37 fl_OF_39 (zb_0 I) (zs_0 I) (congrArg ov_r (rg_0_4 I)) ?_
            refine ov_blk (ls2 := [(0, ov_r 0), (1, ov_i m), (2, ov_i b)]) (st2 := [ov_i m, ov_r 14, ov_r 4]) (pc2 := 41) b_196_40_1 rfl rfl ?_
            refine ov_aald d_196_41 (zb_14 I) (zs_14 I) (by omega) ?_
            have me179 : m = 0 ∨ m = 1 ∨ m = 2 ∨ m = 3 := by omega
            have ne179 := ra_14 I m
            rcases me179 with e179 | e179 | e179 | e179
            · have re179 : h 14 m = 15 := by omega
              rw [re179]
              show ov_R u d ov_m196 42 [(0, ov_r 0), (1, ov_i m), (2, ov_i b)] [ov_r 15, ov_r 4] z h (P_OF_mark_0_m F z h m b)
              refine ov_cV (as := [ov_r 15]) (st := []) (d2 := d - 1) d_196_42 lk_OF_322 rfl (Nat.le_of_ble_eq_true rfl) (c := 7) (zb_4 I) (zs_4 I) ⟨by decide, rfl⟩ (by omega) (c_State_copy_4_15 (d - 1) (by omega) U (ov_I_ff (M := 34359738368) I) (ov_kw_ff (ov_kws hw (by decide +kernel)) (by decide +kernel))) ?_
              rintro _ z181 h182 ⟨rfl, I183, f180⟩
              have I183k := I183
              have I183 := ov_I_fr I I183k
              have er184 : h182 35 = h 35 := ov_ff_k I183k (Or.inl (by decide)) (by decide +kernel)
              have ek185 : h182 35 0 = (h 35 0) := congrFun er184 0
              have ek186 : h182 35 1 = (h 35 1) := congrFun er184 1
              have ek187 : h182 35 2 = (h 35 2) := congrFun er184 2
              have ek188 : h182 35 3 = (h 35 3) := congrFun er184 3
              show ov_R u d ov_m196 45 [(0, ov_r 0), (1, ov_i m), (2, ov_i b)] [] z181 h182 (P_OF_mark_0_m F z h m b)
              have f189 : (h182 36 7) = (h 36 7) ∧ (h182 1 1) = (h 1 1) ∧ (h182 90 2) = (h 90 2) ∧ (h182 0 10) = (h 0 10) ∧ (h182 0 11) = (h 0 11) ∧ (h182 0 12) = (h 0 12) ∧ (h182 0 13) = (h 0 13) ∧ (h182 3 1) = (h 3 1) ∧ (h182 36 8) = (h 36 8) ∧ (h182 46 3) = (h 46 3) ∧ (h182 46 4) = (h 46 4) ∧ (h182 49 4) = (h 49 4) ∧ (h182 49 5) = (h 49 5) ∧ (h182 64 0) = (h 64 0) ∧ (h182 76 0) = (h 76 0) := f180
              clear f180
              refine ov_blk (ls2 := [(0, ov_r 0), (1, ov_i m), (2, ov_i b)]) (st2 := [ov_r 0]) (pc2 := 46) b_196_45_1 rfl rfl ?_
              refine ov_getf (v := ov_r 9) d_196_46 fl_OF_35 (zb_0 I183) (zs_0 I183) (congrArg ov_r (rg_0_3 I183)) ?_
              refine ov_cV (as := []) (st := []) (d2 := d - 1) d_196_49 lk_OF_115 rfl (Nat.le_of_ble_eq_true rfl) (c := 3) (zb_9 I183) (zs_9 I183) ⟨by decide, rfl⟩ (by omega) (c_History_clear_9 (d - 1) (by omega) U (ov_I_ff (M := 34359738368) I183) (ov_kw_ff (ov_kws hw (by decide +kernel)) (by decide +kernel))) ?_
              rintro _ z191 h192 ⟨rfl, I193, f190⟩
              have I193k := I193
              have I193 := ov_I_fr I183 I193k
              have er194 : h192 35 = h182 35 := ov_ff_k I193k (Or.inl (by decide)) (by decide +kernel)
              have ek195 : h192 35 0 = (h182 35 0) := congrFun er194 0
              have ek196 : h192 35 1 = (h182 35 1) := congrFun er194 1
              have ek197 : h192 35 2 = (h182 35 2) := congrFun er194 2
              have ek198 : h192 35 3 = (h182 35 3) := congrFun er194 3
              show ov_R u d ov_m196 52 [(0, ov_r 0), (1, ov_i m), (2, ov_i b)] [] z191 h192 (P_OF_mark_0_m F z h m b)
              have f199 : (h192 36 7) = (h182 36 7) ∧ (h192 1 1) = (h182 1 1) ∧ (h192 90 2) = (h182 90 2) ∧ (h192 0 10) = (h182 0 10) ∧ (h192 0 11) = (h182 0 11) ∧ (h192 0 12) = (h182 0 12) ∧ (h192 0 13) = (h182 0 13) ∧ (h192 3 1) = (h182 3 1) ∧ (h192 36 8) = (h182 36 8) ∧ (h192 46 3) = (h182 46 3) ∧ (h192 46 4) = (h182 46 4) ∧ (h192 49 4) = (h182 49 4) ∧ (h192 49 5) = (h182 49 5) ∧ (h192 64 0) = (h182 64 0) ∧ (h192 76 0) = (h182 76 0) := f190
              clear f190
              refine ov_goto (tgt := 75) d_196_52 (by decide) ?_
              refine ov_blk (ls2 := [(0, ov_r 0), (1, ov_i m), (2, ov_i b)]) (st2 := [ov_i 1]) (pc2 := 76) b_196_75_1 rfl rfl ?_
              have y4 := mk_at_e (f := h 35) (m := m) ⟨by omega, by omega⟩
              have hr : mk_ans (h 35 0) (h 35 1) (h 35 2) (h 35 3) m b = 1 := by unfold mk_ans; rw [if_pos ⟨by omega, by omega, by omega⟩]
              have gz0 : mk_row 1 m 0 (h 35 0) = h 35 0 := mk_row_1 (fun e => (congrArg (h 35) e).symm.trans (by omega))
              have gz1 : mk_row 1 m 1 (h 35 1) = h 35 1 := mk_row_1 (fun e => (congrArg (h 35) e).symm.trans (by omega))
              have gz2 : mk_row 1 m 2 (h 35 2) = h 35 2 := mk_row_1 (fun e => (congrArg (h 35) e).symm.trans (by omega))
              have gz3 : mk_row 1 m 3 (h 35 3) = h 35 3 := mk_row_1 (fun e => (congrArg (h 35) e).symm.trans (by omega))
              exact ov_retz (st := []) d_196_76 rfl (by omega) ⟨_, rfl, I193, (by show 1 = mk_ans (h 35 0) (h 35 1) (h 35 2) (h 35 3) m b ∧ (1 = 0 ∨ 1 = 1) ∧ (h192 35 0) = mk_row 1 m 0 (h 35 0) ∧ (h192 35 1) = mk_row 1 m 1 (h 35 1) ∧ (h192 35 2) = mk_row 1 m 2 (h 35 2) ∧ (h192 35 3) = mk_row 1 m 3 (h 35 3) ∧ (h192 36 7) = (h 36 7) ∧ (h192 1 1) = (h 1 1) ∧ (h192 90 2) = (h 90 2) ∧ (h192 0 10) = (h 0 10) ∧ (h192 0 11) = (h 0 11) ∧ (h192 0 12) = (h 0 12) ∧ (h192 0 13) = (h 0 13) ∧ (h192 3 1) = (h 3 1) ∧ (h192 36 8) = (h 36 8) ∧ (h192 46 3) = (h 46 3) ∧ (h192 46 4) = (h 46 4) ∧ (h192 49 4) = (h 49 4) ∧ (h192 49 5) = (h 49 5) ∧ (h192 64 0) = (h 64 0) ∧ (h192 76 0) = (h 76 0); omega)⟩
            · have re179 : h 14 m = 20 := by omega
              rw [re179]
              show ov_R u d ov_m196 42 [(0, ov_r 0), (1, ov_i m), (2, ov_i b)] [ov_r 20, ov_r 4] z h (P_OF_mark_0_m F z h m b)
              refine ov_cV (as := [ov_r 20]) (st := []) (d2 := d - 1) d_196_42 lk_OF_322 rfl (Nat.le_of_ble_eq_true rfl) (c := 7) (zb_4 I) (zs_4 I) ⟨by decide, rfl⟩ (by omega) (c_State_copy_4_20 (d - 1) (by omega) U (ov_I_ff (M := 34359738368) I) (ov_kw_ff (ov_kws hw (by decide +kernel)) (by decide +kernel))) ?_
              rintro _ z201 h202 ⟨rfl, I203, f200⟩
              have I203k := I203
              have I203 := ov_I_fr I I203k
              have er204 : h202 35 = h 35 := ov_ff_k I203k (Or.inl (by decide)) (by decide +kernel)
              have ek205 : h202 35 0 = (h 35 0) := congrFun er204 0
              have ek206 : h202 35 1 = (h 35 1) := congrFun er204 1
              have ek207 : h202 35 2 = (h 35 2) := congrFun er204 2
              have ek208 : h202 35 3 = (h 35 3) := congrFun er204 3
              show ov_R u d ov_m196 45 [(0, ov_r 0), (1, ov_i m), (2, ov_i b)] [] z201 h202 (P_OF_mark_0_m F z h m b)
              have f209 : (h202 36 7) = (h 36 7) ∧ (h202 1 1) = (h 1 1) ∧ (h202 90 2) = (h 90 2) ∧ (h202 0 10) = (h 0 10) ∧ (h202 0 11) = (h 0 11) ∧ (h202 0 12) = (h 0 12) ∧ (h202 0 13) = (h 0 13) ∧ (h202 3 1) = (h 3 1) ∧ (h202 36 8) = (h 36 8) ∧ (h202 46 3) = (h 46 3) ∧ (h202 46 4) = (h 46 4) ∧ (h202 49 4) = (h 49 4) ∧ (h202 49 5) = (h 49 5) ∧ (h202 64 0) = (h 64 0) ∧ (h202 76 0) = (h 76 0) := f200
              clear f200
              refine ov_blk (ls2 := [(0, ov_r 0), (1, ov_i m), (2, ov_i b)]) (st2 := [ov_r 0]) (pc2 := 46) b_196_45_1 rfl rfl ?_
              refine ov_getf (v := ov_r 9) d_196_46 fl_OF_35 (zb_0 I203) (zs_0 I203) (congrArg ov_r (rg_0_3 I203)) ?_
              refine ov_cV (as := []) (st := []) (d2 := d - 1) d_196_49 lk_OF_115 rfl (Nat.le_of_ble_eq_true rfl) (c := 3) (zb_9 I203) (zs_9 I203) ⟨by decide, rfl⟩ (by omega) (c_History_clear_9 (d - 1) (by omega) U (ov_I_ff (M := 34359738368) I203) (ov_kw_ff (ov_kws hw (by decide +kernel)) (by decide +kernel))) ?_
              rintro _ z211 h212 ⟨rfl, I213, f210⟩
              have I213k := I213
              have I213 := ov_I_fr I203 I213k
              have er214 : h212 35 = h202 35 := ov_ff_k I213k (Or.inl (by decide)) (by decide +kernel)
              have ek215 : h212 35 0 = (h202 35 0) := congrFun er214 0
              have ek216 : h212 35 1 = (h202 35 1) := congrFun er214 1
              have ek217 : h212 35 2 = (h202 35 2) := congrFun er214 2
              have ek218 : h212 35 3 = (h202 35 3) := congrFun er214 3
              show ov_R u d ov_m196 52 [(0, ov_r 0), (1, ov_i m), (2, ov_i b)] [] z211 h212 (P_OF_mark_0_m F z h m b)
              have f219 : (h212 36 7) = (h202 36 7) ∧ (h212 1 1) = (h202 1 1) ∧ (h212 90 2) = (h202 90 2) ∧ (h212 0 10) = (h202 0 10) ∧ (h212 0 11) = (h202 0 11) ∧ (h212 0 12) = (h202 0 12) ∧ (h212 0 13) = (h202 0 13) ∧ (h212 3 1) = (h202 3 1) ∧ (h212 36 8) = (h202 36 8) ∧ (h212 46 3) = (h202 46 3) ∧ (h212 46 4) = (h202 46 4) ∧ (h212 49 4) = (h202 49 4) ∧ (h212 49 5) = (h202 49 5) ∧ (h212 64 0) = (h202 64 0) ∧ (h212 76 0) = (h202 76 0) := f210
              clear f210
              refine ov_goto (tgt := 75) d_196_52 (by decide) ?_
              refine ov_blk (ls2 := [(0, ov_r 0), (1, ov_i m), (2, ov_i b)]) (st2 := [ov_i 1]) (pc2 := 76) b_196_75_1 rfl rfl ?_
              have y4 := mk_at_e (f := h 35) (m := m) ⟨by omega, by omega⟩
              have hr : mk_ans (h 35 0) (h 35 1) (h 35 2) (h 35 3) m b = 1 := by unfold mk_ans; rw [if_pos ⟨by omega, by omega, by omega⟩]
              have gz0 : mk_row 1 m 0 (h 35 0) = h 35 0 := mk_row_1 (fun e => (congrArg (h 35) e).symm.trans (by omega))
              have gz1 : mk_row 1 m 1 (h 35 1) = h 35 1 := mk_row_1 (fun e => (congrArg (h 35) e).symm.trans (by omega))
              have gz2 : mk_row 1 m 2 (h 35 2) = h 35 2 := mk_row_1 (fun e => (congrArg (h 35) e).symm.trans (by omega))
              have gz3 : mk_row 1 m 3 (h 35 3) = h 35 3 := mk_row_1 (fun e => (congrArg (h 35) e).symm.trans (by omega))
              exact ov_retz (st := []) d_196_76 rfl (by omega) ⟨_, rfl, I213, (by show 1 = mk_ans (h 35 0) (h 35 1) (h 35 2) (h 35 3) m b ∧ (1 = 0 ∨ 1 = 1) ∧ (h212 35 0) = mk_row 1 m 0 (h 35 0) ∧ (h212 35 1) = mk_row 1 m 1 (h 35 1) ∧ (h212 35 2) = mk_row 1 m 2 (h 35 2) ∧ (h212 35 3) = mk_row 1 m 3 (h 35 3) ∧ (h212 36 7) = (h 36 7) ∧ (h212 1 1) = (h 1 1) ∧ (h212 90 2) = (h 90 2) ∧ (h212 0 10) = (h 0 10) ∧ (h212 0 11) = (h 0 11) ∧ (h212 0 12) = (h 0 12) ∧ (h212 0 13) = (h 0 13) ∧ (h212 3 1) = (h 3 1) ∧ (h212 36 8) = (h 36 8) ∧ (h212 46 3) = (h 46 3) ∧ (h212 46 4) = (h 46 4) ∧ (h212 49 4) = (h 49 4) ∧ (h212 49 5) = (h 49 5) ∧ (h212 64 0) = (h 64 0) ∧ (h212 76 0) = (h 76 0); omega)⟩
            · have re179 : h 14 m = 25 := by omega
              rw [re179]
              show ov_R u d ov_m196 42 [(0, ov_r 0), (1, ov_i m), (2, ov_i b)] [ov_r 25, ov_r 4] z h (P_OF_mark_0_m F z h m b)
              refine ov_cV (as := [ov_r 25]) (st := []) (d2 := d - 1) d_196_42 lk_OF_322 rfl (Nat.le_of_ble_eq_true rfl) (c := 7) (zb_4 I) (zs_4 I) ⟨by decide, rfl⟩ (by omega) (c_State_copy_4_25 (d - 1) (by omega) U (ov_I_ff (M := 34359738368) I) (ov_kw_ff (ov_kws hw (by decide +kernel)) (by decide +kernel))) ?_
              rintro _ z221 h222 ⟨rfl, I223, f220⟩
              have I223k := I223
              have I223 := ov_I_fr I I223k
              have er224 : h222 35 = h 35 := ov_ff_k I223k (Or.inl (by decide)) (by decide +kernel)
              have ek225 : h222 35 0 = (h 35 0) := congrFun er224 0
              have ek226 : h222 35 1 = (h 35 1) := congrFun er224 1
              have ek227 : h222 35 2 = (h 35 2) := congrFun er224 2
              have ek228 : h222 35 3 = (h 35 3) := congrFun er224 3
              show ov_R u d ov_m196 45 [(0, ov_r 0), (1, ov_i m), (2, ov_i b)] [] z221 h222 (P_OF_mark_0_m F z h m b)
              have f229 : (h222 36 7) = (h 36 7) ∧ (h222 1 1) = (h 1 1) ∧ (h222 90 2) = (h 90 2) ∧ (h222 0 10) = (h 0 10) ∧ (h222 0 11) = (h 0 11) ∧ (h222 0 12) = (h 0 12) ∧ (h222 0 13) = (h 0 13) ∧ (h222 3 1) = (h 3 1) ∧ (h222 36 8) = (h 36 8) ∧ (h222 46 3) = (h 46 3) ∧ (h222 46 4) = (h 46 4) ∧ (h222 49 4) = (h 49 4) ∧ (h222 49 5) = (h 49 5) ∧ (h222 64 0) = (h 64 0) ∧ (h222 76 0) = (h 76 0) := f220
              clear f220
              refine ov_blk (ls2 := [(0, ov_r 0), (1, ov_i m), (2, ov_i b)]) (st2 := [ov_r 0]) (pc2 := 46) b_196_45_1 rfl rfl ?_
              refine ov_getf (v := ov_r 9) d_196_46 fl_OF_35 (zb_0 I223) (zs_0 I223) (congrArg ov_r (rg_0_3 I223)) ?_
              refine ov_cV (as := []) (st := []) (d2 := d - 1) d_196_49 lk_OF_115 rfl (Nat.le_of_ble_eq_true rfl) (c := 3) (zb_9 I223) (zs_9 I223) ⟨by decide, rfl⟩ (by omega) (c_History_clear_9 (d - 1) (by omega) U (ov_I_ff (M := 34359738368) I223) (ov_kw_ff (ov_kws hw (by decide +kernel)) (by decide +kernel))) ?_
              rintro _ z231 h232 ⟨rfl, I233, f230⟩
              have I233k := I233
              have I233 := ov_I_fr I223 I233k
              have er234 : h232 35 = h222 35 := ov_ff_k I233k (Or.inl (by decide)) (by decide +kernel)
              have ek235 : h232 35 0 = (h222 35 0) := congrFun er234 0
              have ek236 : h232 35 1 = (h222 35 1) := congrFun er234 1
              have ek237 : h232 35 2 = (h222 35 2) := congrFun er234 2
              have ek238 : h232 35 3 = (h222 35 3) := congrFun er234 3
              show ov_R u d ov_m196 52 [(0, ov_r 0), (1, ov_i m), (2, ov_i b)] [] z231 h232 (P_OF_mark_0_m F z h m b)
              have f239 : (h232 36 7) = (h222 36 7) ∧ (h232 1 1) = (h222 1 1) ∧ (h232 90 2) = (h222 90 2) ∧ (h232 0 10) = (h222 0 10) ∧ (h232 0 11) = (h222 0 11) ∧ (h232 0 12) = (h222 0 12) ∧ (h232 0 13) = (h222 0 13) ∧ (h232 3 1) = (h222 3 1) ∧ (h232 36 8) = (h222 36 8) ∧ (h232 46 3) = (h222 46 3) ∧ (h232 46 4) = (h222 46 4) ∧ (h232 49 4) = (h222 49 4) ∧ (h232 49 5) = (h222 49 5) ∧ (h232 64 0) = (h222 64 0) ∧ (h232 76 0) = (h222 76 0) := f230
              clear f230
              refine ov_goto (tgt := 75) d_196_52 (by decide) ?_
              refine ov_blk (ls2 := [(0, ov_r 0), (1, ov_i m), (2, ov_i b)]) (st2 := [ov_i 1]) (pc2 := 76) b_196_75_1 rfl rfl ?_
              have y4 := mk_at_e (f := h 35) (m := m) ⟨by omega, by omega⟩
              have hr : mk_ans (h 35 0) (h 35 1) (h 35 2) (h 35 3) m b = 1 := by unfold mk_ans; rw [if_pos ⟨by omega, by omega, by omega⟩]
              have gz0 : mk_row 1 m 0 (h 35 0) = h 35 0 := mk_row_1 (fun e => (congrArg (h 35) e).symm.trans (by omega))
              have gz1 : mk_row 1 m 1 (h 35 1) = h 35 1 := mk_row_1 (fun e => (congrArg (h 35) e).symm.trans (by omega))
              have gz2 : mk_row 1 m 2 (h 35 2) = h 35 2 := mk_row_1 (fun e => (congrArg (h 35) e).symm.trans (by omega))
              have gz3 : mk_row 1 m 3 (h 35 3) = h 35 3 := mk_row_1 (fun e => (congrArg (h 35) e).symm.trans (by omega))
              exact ov_retz (st := []) d_196_76 rfl (by omega) ⟨_, rfl, I233, (by show 1 = mk_ans (h 35 0) (h 35 1) (h 35 2) (h 35 3) m b ∧ (1 = 0 ∨ 1 = 1) ∧ (h232 35 0) = mk_row 1 m 0 (h 35 0) ∧ (h232 35 1) = mk_row 1 m 1 (h 35 1) ∧ (h232 35 2) = mk_row 1 m 2 (h 35 2) ∧ (h232 35 3) = mk_row 1 m 3 (h 35 3) ∧ (h232 36 7) = (h 36 7) ∧ (h232 1 1) = (h 1 1) ∧ (h232 90 2) = (h 90 2) ∧ (h232 0 10) = (h 0 10) ∧ (h232 0 11) = (h 0 11) ∧ (h232 0 12) = (h 0 12) ∧ (h232 0 13) = (h 0 13) ∧ (h232 3 1) = (h 3 1) ∧ (h232 36 8) = (h 36 8) ∧ (h232 46 3) = (h 46 3) ∧ (h232 46 4) = (h 46 4) ∧ (h232 49 4) = (h 49 4) ∧ (h232 49 5) = (h 49 5) ∧ (h232 64 0) = (h 64 0) ∧ (h232 76 0) = (h 76 0); omega)⟩
            · have re179 : h 14 m = 30 := by omega
              rw [re179]
              show ov_R u d ov_m196 42 [(0, ov_r 0), (1, ov_i m), (2, ov_i b)] [ov_r 30, ov_r 4] z h (P_OF_mark_0_m F z h m b)
              refine ov_cV (as := [ov_r 30]) (st := []) (d2 := d - 1) d_196_42 lk_OF_322 rfl (Nat.le_of_ble_eq_true rfl) (c := 7) (zb_4 I) (zs_4 I) ⟨by decide, rfl⟩ (by omega) (c_State_copy_4_30 (d - 1) (by omega) U (ov_I_ff (M := 34359738368) I) (ov_kw_ff (ov_kws hw (by decide +kernel)) (by decide +kernel))) ?_
              rintro _ z241 h242 ⟨rfl, I243, f240⟩
              have I243k := I243
              have I243 := ov_I_fr I I243k
              have er244 : h242 35 = h 35 := ov_ff_k I243k (Or.inl (by decide)) (by decide +kernel)
              have ek245 : h242 35 0 = (h 35 0) := congrFun er244 0
              have ek246 : h242 35 1 = (h 35 1) := congrFun er244 1
              have ek247 : h242 35 2 = (h 35 2) := congrFun er244 2
              have ek248 : h242 35 3 = (h 35 3) := congrFun er244 3
              show ov_R u d ov_m196 45 [(0, ov_r 0), (1, ov_i m), (2, ov_i b)] [] z241 h242 (P_OF_mark_0_m F z h m b)
              have f249 : (h242 36 7) = (h 36 7) ∧ (h242 1 1) = (h 1 1) ∧ (h242 90 2) = (h 90 2) ∧ (h242 0 10) = (h 0 10) ∧ (h242 0 11) = (h 0 11) ∧ (h242 0 12) = (h 0 12) ∧ (h242 0 13) = (h 0 13) ∧ (h242 3 1) = (h 3 1) ∧ (h242 36 8) = (h 36 8) ∧ (h242 46 3) = (h 46 3) ∧ (h242 46 4) = (h 46 4) ∧ (h242 49 4) = (h 49 4) ∧ (h242 49 5) = (h 49 5) ∧ (h242 64 0) = (h 64 0) ∧ (h242 76 0) = (h 76 0) := f240
              clear f240
              refine ov_blk (ls2 := [(0, ov_r 0), (1, ov_i m), (2, ov_i b)]) (st2 := [ov_r 0]) (pc2 := 46) b_196_45_1 rfl rfl ?_
              refine ov_getf (v := ov_r 9) d_196_46 fl_OF_35 (zb_0 I243) (zs_0 I243) (congrArg ov_r (rg_0_3 I243)) ?_
              refine ov_cV (as := []) (st := []) (d2 := d - 1) d_196_49 lk_OF_115 rfl (Nat.le_of_ble_eq_true rfl) (c := 3) (zb_9 I243) (zs_9 I243) ⟨by decide, rfl⟩ (by omega) (c_History_clear_9 (d - 1) (by omega) U (ov_I_ff (M := 34359738368) I243) (ov_kw_ff (ov_kws hw (by decide +kernel)) (by decide +kernel))) ?_
              rintro _ z251 h252 ⟨rfl, I253, f250⟩
              have I253k := I253
              have I253 := ov_I_fr I243 I253k
              have er254 : h252 35 = h242 35 := ov_ff_k I253k (Or.inl (by decide)) (by decide +kernel)
              have ek255 : h252 35 0 = (h242 35 0) := congrFun er254 0
              have ek256 : h252 35 1 = (h242 35 1) := congrFun er254 1
              have ek257 : h252 35 2 = (h242 35 2) := congrFun er254 2
              have ek258 : h252 35 3 = (h242 35 3) := congrFun er254 3
              show ov_R u d ov_m196 52 [(0, ov_r 0), (1, ov_i m), (2, ov_i b)] [] z251 h252 (P_OF_mark_0_m F z h m b)
              have f259 : (h252 36 7) = (h242 36 7) ∧ (h252 1 1) = (h242 1 1) ∧ (h252 90 2) = (h242 90 2) ∧ (h252 0 10) = (h242 0 10) ∧ (h252 0 11) = (h242 0 11) ∧ (h252 0 12) = (h242 0 12) ∧ (h252 0 13) = (h242 0 13) ∧ (h252 3 1) = (h242 3 1) ∧ (h252 36 8) = (h242 36 8) ∧ (h252 46 3) = (h242 46 3) ∧ (h252 46 4) = (h242 46 4) ∧ (h252 49 4) = (h242 49 4) ∧ (h252 49 5) = (h242 49 5) ∧ (h252 64 0) = (h242 64 0) ∧ (h252 76 0) = (h242 76 0) := f250
              clear f250
              refine ov_goto (tgt := 75) d_196_52 (by decide) ?_
              refine ov_blk (ls2 := [(0, ov_r 0), (1, ov_i m), (2, ov_i b)]) (st2 := [ov_i 1]) (pc2 := 76) b_196_75_1 rfl rfl ?_
              have y4 := mk_at_e (f := h 35) (m := m) ⟨by omega, by omega⟩
              have hr : mk_ans (h 35 0) (h 35 1) (h 35 2) (h 35 3) m b = 1 := by unfold mk_ans; rw [if_pos ⟨by omega, by omega, by omega⟩]
              have gz0 : mk_row 1 m 0 (h 35 0) = h 35 0 := mk_row_1 (fun e => (congrArg (h 35) e).symm.trans (by omega))
              have gz1 : mk_row 1 m 1 (h 35 1) = h 35 1 := mk_row_1 (fun e => (congrArg (h 35) e).symm.trans (by omega))
              have gz2 : mk_row 1 m 2 (h 35 2) = h 35 2 := mk_row_1 (fun e => (congrArg (h 35) e).symm.trans (by omega))
              have gz3 : mk_row 1 m 3 (h 35 3) = h 35 3 := mk_row_1 (fun e => (congrArg (h 35) e).symm.trans (by omega))
              exact ov_retz (st := []) d_196_76 rfl (by omega) ⟨_, rfl, I253, (by show 1 = mk_ans (h 35 0) (h 35 1) (h 35 2) (h 35 3) m b ∧ (1 = 0 ∨ 1 = 1) ∧ (h252 35 0) = mk_row 1 m 0 (h 35 0) ∧ (h252 35 1) = mk_row 1 m 1 (h 35 1) ∧ (h252 35 2) = mk_row 1 m 2 (h 35 2) ∧ (h252 35 3) = mk_row 1 m 3 (h 35 3) ∧ (h252 36 7) = (h 36 7) ∧ (h252 1 1) = (h 1 1) ∧ (h252 90 2) = (h 90 2) ∧ (h252 0 10) = (h 0 10) ∧ (h252 0 11) = (h 0 11) ∧ (h252 0 12) = (h 0 12) ∧ (h252 0 13) = (h 0 13) ∧ (h252 3 1) = (h 3 1) ∧ (h252 36 8) = (h 36 8) ∧ (h252 46 3) = (h 46 3) ∧ (h252 46 4) = (h 46 4) ∧ (h252 49 4) = (h 49 4) ∧ (h252 49 5) = (h 49 5) ∧ (h252 64 0) = (h 64 0) ∧ (h252 76 0) = (h 76 0); omega)⟩
        · skip
          refine ov_blk (ls2 := [(0, ov_r 0), (1, ov_i m), (2, ov_i b)]) (st2 := [ov_i 0]) (pc2 := 27) b_196_26_1 rfl rfl ?_
          have hr : mk_ans (h 35 0) (h 35 1) (h 35 2) (h 35 3) m b = 0 := by unfold mk_ans; rw [if_neg (fun q => by have y := mk_at_e (f := h 35) (m := m) ⟨q.1, q.2.1⟩; have q2 := q.2.2; omega)]
          have gz0 : mk_row 0 m 0 (h 35 0) = h 35 0 := mk_row_0
          have gz1 : mk_row 0 m 1 (h 35 1) = h 35 1 := mk_row_0
          have gz2 : mk_row 0 m 2 (h 35 2) = h 35 2 := mk_row_0
          have gz3 : mk_row 0 m 3 (h 35 3) = h 35 3 := mk_row_0
          exact ov_retz (st := []) d_196_27 rfl (by omega) ⟨_, rfl, I, (by show 0 = mk_ans (h 35 0) (h 35 1) (h 35 2) (h 35 3) m b ∧ (0 = 0 ∨ 0 = 1) ∧ (h 35 0) = mk_row 0 m 0 (h 35 0) ∧ (h 35 1) = mk_row 0 m 1 (h 35 1) ∧ (h 35 2) = mk_row 0 m 2 (h 35 2) ∧ (h 35 3) = mk_row 0 m 3 (h 35 3) ∧ (h 36 7) = (h 36 7) ∧ (h 1 1) = (h 1 1) ∧ (h 90 2) = (h 90 2) ∧ (h 0 10) = (h 0 10) ∧ (h 0 11) = (h 0 11) ∧ (h 0 12) = (h 0 12) ∧ (h 0 13) = (h 0 13) ∧ (h 3 1) = (h 3 1) ∧ (h 36 8) = (h 36 8) ∧ (h 46 3) = (h 46 3) ∧ (h 46 4) = (h 46 4) ∧ (h 49 4) = (h 49 4) ∧ (h 49 5) = (h 49 5) ∧ (h 64 0) = (h 64 0) ∧ (h 76 0) = (h 76 0); omega)⟩
def ov_S31t (r : Int) (h h' : ov_H) : Prop := ∀ j : Int, 0 ≤ j → j < 4 → (r = 0 → h' 35 j = 0) ∧ (¬ r = 0 → h' 35 j = h 35 j)
def ov_S31m (r m b : Int) (h h' : ov_H) : Prop := r = mk_ans (h 35 0) (h 35 1) (h 35 2) (h 35 3) m b ∧ ∀ j : Int, 0 ≤ j → j < 4 → h' 35 j = mk_row r m j (h 35 j)
theorem ov_j4 {P : Int → Prop} (a : P 0) (b : P 1) (c : P 2) (d : P 3) : ∀ j : Int, 0 ≤ j → j < 4 → P j := fun j j0 j1 => by
  have q : j = 0 ∨ j = 1 ∨ j = 2 ∨ j = 3 := by omega
  rcases q with rfl | rfl | rfl | rfl
  · exact a
  · exact b
  · exact c
  · exact d
set_option maxHeartbeats 4000000 in
theorem c_OF_town_0_n {u : ov_U} {F : ov_H} (t : Int → Int) (m f0 : Int) (hf : ∀ (f : Int) (B : Int → Int), pt_ET t m f B → f = f0) {z : ov_Z} {h : ov_H} (d : Nat) (hd : 50 ≤ d) (U : ov_cap u) (I : ov_I F z h) (hw : ov_kw 84624216788983341731807771 F) (p0 : h 36 7 = 1 → h 36 8 = h 0 10) (p1 : (h 0 10 = 58 ∧ h 0 11 = 70 ∧ 0 ≤ h 64 0 ∧ F (-5) 58 = 1 ∨ h 0 10 = 70 ∧ h 0 11 = 58 ∧ 0 ≤ h 76 0 ∧ F (-5) 70 = 1)) (et : h 2 = t) (em : h 1 1 = m) : ov_T u d ov_m23 [ov_r 0] z h (fun r0 z' h' => ∃ r : Int, r0 = some (ov_i r) ∧ ov_I F z' h' ∧ ((h' 1 1) = 0 ∧ ((h' 36 7) = 1 → (h' 36 8) = (h' 0 10)) ∧ ((h' 0 10) = 58 ∧ (h' 0 11) = 70 ∧ 0 ≤ (h' 64 0) ∧ 1 ≤ (h' 58 0) ∧ 1 ≤ (h' 58 1) ∨ (h' 0 10) = 70 ∧ (h' 0 11) = 58 ∧ 0 ≤ (h' 76 0) ∧ 1 ≤ (h' 70 0) ∧ 1 ≤ (h' 70 1)) ∧ r = f0 ∧ (h' 90 2) = (h 90 2) ∧ (h' 0 12) = (h 0 12) ∧ (h' 0 13) = (h 0 13) ∧ (h' 46 3) = (h 46 3) ∧ (h' 46 4) = (h 46 4) ∧ (h' 49 4) = (h 49 4) ∧ (h' 49 5) = (h 49 5)) ∧ ov_S31t r h h') := by
  refine ov_T_wk (c_OF_town_0_m t m f0 hf d hd U I hw p0 p1 et em) ?_
  rintro r0 z' h' ⟨r, e, I', q⟩
  obtain ⟨a0, a1, a2, a3, m0, n0, m1, n1, m2, n2, m3, n3, k0, k1, k2, k3, k4, k5, k6⟩ := q
  exact ⟨r, e, I', ⟨a0, a1, a2, a3, k0, k1, k2, k3, k4, k5, k6⟩, ov_j4 (P := fun j => (r = 0 → h' 35 j = 0) ∧ (¬ r = 0 → h' 35 j = h 35 j)) ⟨m0, n0⟩ ⟨m1, n1⟩ ⟨m2, n2⟩ ⟨m3, n3⟩⟩
set_option maxHeartbeats 4000000 in
theorem c_OF_mark_0_n {u : ov_U} {F : ov_H} {z : ov_Z} {h : ov_H} (d : Nat) (hd : 3 ≤ d) (U : ov_cap u) (I : ov_I F z h) (hw : ov_kw 68719444976 F) (m : Int) (b : Int) (g_m : ov_g m) (g_b : b = 0 ∨ b = 1) : ov_T u d ov_m196 [ov_r 0, ov_i m, ov_i b] z h (fun r0 z' h' => ∃ r : Int, r0 = some (ov_i r) ∧ ov_I F z' h' ∧ ((r = 0 ∨ r = 1) ∧ (h' 36 7) = (h 36 7) ∧ (h' 1 1) = (h 1 1) ∧ (h' 90 2) = (h 90 2) ∧ (h' 0 10) = (h 0 10) ∧ (h' 0 11) = (h 0 11) ∧ (h' 0 12) = (h 0 12) ∧ (h' 0 13) = (h 0 13) ∧ (h' 3 1) = (h 3 1) ∧ (h' 36 8) = (h 36 8) ∧ (h' 46 3) = (h 46 3) ∧ (h' 46 4) = (h 46 4) ∧ (h' 49 4) = (h 49 4) ∧ (h' 49 5) = (h 49 5) ∧ (h' 64 0) = (h 64 0) ∧ (h' 76 0) = (h 76 0)) ∧ ov_S31m r m b h h') := by
  refine ov_T_wk (c_OF_mark_0_m d hd U I hw m b g_m g_b) ?_
  rintro r0 z' h' ⟨r, e, I', q⟩
  obtain ⟨er, e01, m0, m1, m2, m3, k0, k1, k2, k3, k4, k5, k6, k7, k8, k9, k10, k11, k12, k13, k14⟩ := q
  exact ⟨r, e, I', ⟨e01, k0, k1, k2, k3, k4, k5, k6, k7, k8, k9, k10, k11, k12, k13, k14⟩, er, ov_j4 (P := fun j => h' 35 j = mk_row r m j (h 35 j)) m0 m1 m2 m3⟩
/-- two contracts: what follows from both pictures -/
theorem ov_T_x {u : ov_U} {d : Nat} {M : ov_M} {as : List ov_V} {z : ov_Z} {h : ov_H} {Q1 Q2 X : Option ov_V → ov_Z → ov_H → Prop} (a : ov_T u d M as z h Q1) (b : ov_T u d M as z h Q2)
    (k : ∀ (r : Option ov_V) (z' : ov_Z) (h' : ov_H) (r2 : Option ov_V) (z2 : ov_Z) (h2 : ov_H) (H : Heap), Q1 r z' h' → Q2 r2 z2 h2 → ov_Rp u z' h' H → ov_Rp u z2 h2 H → X r z' h') : ov_T u d M as z h (fun r z' h' => Q1 r z' h' ∧ X r z' h') := by
  refine ov_T_wk (ov_T_and a b) ?_
  rintro r z' h' ⟨q1, r2, z2, h2, q2, -, H, R1, R2⟩
  exact ⟨q1, k r z' h' r2 z2 h2 H q1 q2 R1 R2⟩
set_option maxHeartbeats 4000000 in
theorem c_Mo_begins_90_m {u : ov_U} {F : ov_H × ov_Z} {z : ov_Z} {h : ov_H} (d : Nat) (hd : 0 ≤ d) (U : ov_cap u) (I : ov_N F z h) (p0 : 0 ≤ ov_bd F ∧ ov_bd F ≤ 800000000) (p1 : 0 ≤ (h 90 22) ∧ (h 90 22) ≤ 2000000000) : ov_T u d ov_m204 [ov_r 90] z h (fun r0 z' h' => P_Mo_begins_90 F z h r0 z' h' ∧ ∀ j : Int, 0 ≤ j → j < 4 → h' 104 j = 0) := by
  refine ov_T_x (X := fun _ _ h' => ∀ j : Int, 0 ≤ j → j < 4 → h' 104 j = 0) (c_Mo_begins_90 d hd U I p0 p1) (c_fMo_begins_90 d (by omega) U I (by omega)) (fun r z' h' r2 z2 h2 H a1 a2 R1 R2 j j0 j1 => ?_)
  obtain ⟨-, N1, -⟩ := a1
  obtain ⟨-, N2, -, mk, -⟩ := a2
  have g1 := ra_104 N1 j
  have g2 := ra_104 N2 j
  rw [ov_el_z (ov_sm_a R1 R2 (by decide) (zb_104 N1).2 (zs_104 N1) (zs_104 N2) (by decide) j0 (by omega)) (by omega) (by omega)]
  exact mk j j0 j1

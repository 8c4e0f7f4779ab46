/-! two pictures of one object -/
theorem ov_sm_o {u : ov_U} {z z2 : ov_Z} {h h2 : ov_H} {H : Heap} (R1 : ov_Rp u z h H) (R2 : ov_Rp u z2 h2 H) {a : Int} (h0 : 0 ≤ a) (h1 : a < z.1) {c n n2 : Nat} (s1 : z.2.2 a = (5 + c, n)) (s2 : z2.2.2 a = (5 + c, n2)) (k : Nat) (hk : k < ov_nf c) : ov_fv u (ov_ft c k) (h a (k : Int)) = ov_fv u (ov_ft c k) (h2 a (k : Int)) := by
  have hz : z2.1 = z.1 := by
    have e1 := R1.1
    have e2 := R2.1
    omega
  obtain ⟨c1, q1, -, -, q4⟩ := ov_obj R1 h0 h1 s1
  obtain ⟨c2, p1, -, -, p4⟩ := ov_obj R2 h0 (by omega) s2
  have e : c1 = c2 := Option.some.inj (q1.symm.trans p1)
  subst e
  exact Option.some.inj ((q4 k hk).symm.trans (p4 k hk))
theorem ov_fi {x y : Int} (e : Value.int (Int32.ofInt x) = Value.int (Int32.ofInt y)) (gx : ov_g x) (gy : ov_g y) : x = y := ov_i32 (Value.int.inj e) gx gy
theorem ov_TB_sm {B r0 r1 r2 r3 r4 r5 r6 r7 q0 q1 q2 q3 q4 q5 q6 q7 : Int → Int} (K : tw_TB B r0 r1 r2 r3 r4 r5 r6 r7) (e00 : q0 0 = r0 0) (e01 : q0 1 = r0 1) (e08 : q0 8 = r0 8) (e09 : q0 9 = r0 9) (e10 : q0 10 = r0 10) (e11 : q0 11 = r0 11)
    (e1 : ∀ c : Int, 0 ≤ c → c < 54 → q1 c = r1 c) (e2 : ∀ c : Int, 0 ≤ c → c < 54 → q2 c = r2 c) (e3 : ∀ c : Int, 0 ≤ c → c < 54 → q3 c = r3 c) (e4 : ∀ c : Int, 0 ≤ c → c < 54 → q4 c = r4 c) (e5 : ∀ c : Int, 0 ≤ c → c < 54 → q5 c = r5 c) (e6 : ∀ c : Int, 0 ≤ c → c < 4 → q6 c = r6 c) (e7 : ∀ c : Int, 0 ≤ c → c < 54 → q7 c = r7 c) : tw_TB B q0 q1 q2 q3 q4 q5 q6 q7 := by
  obtain ⟨k1, k2, k3, k4, k5, k6⟩ := K
  refine ⟨?_, fun c h0 h1 => ?_, fun c h0 h1 h2 => ?_, ?_, fun c h0 h1 => ?_, k6⟩
  · rw [e00, e01, e08, e09, e10, e11]
    exact k1
  · rw [e1 c h0 h1, e5 c h0 h1]
    exact k2 c h0 h1
  · rw [e2 c h0 h1, e3 c h0 h1, e4 c h0 h1]
    exact k3 c h0 h1 h2
  · rw [e6 0 (by decide) (by decide), e6 1 (by decide) (by decide), e6 2 (by decide) (by decide), e6 3 (by decide) (by decide)]
    exact k4
  · rw [e7 c h0 h1, k5 c h0 h1]
    unfold tw_opx
    rw [e00, e01, e1 c h0 h1, e2 c h0 h1, e4 c h0 h1, e5 c h0 h1]
set_option maxHeartbeats 4000000 in
theorem c_Reader_readTown_3_58_t {u : ov_U} {F : ov_H} (t : Int → Int) (m f0 : Int) (hf : ∀ (f : Int) (B : Int → Int), pt_ET t m f B → f = f0) {z : ov_Z} {h : ov_H} (et : h 2 = t) (em : h 1 1 = m) (d : Nat) (hd : 42 ≤ d) (U : ov_cap u) (I : ov_I F z h) (hw : ov_kw 590007579982553939978 F) : ov_T u d ov_m24 [ov_r 3, ov_r 58] z h (fun r0 z' h' => ∃ r : Int, r0 = some (ov_i r) ∧ ov_I F z' h' ∧ ((h' 1 1) = 0 ∧ -2147483648 ≤ r ∧ r ≤ 2147483647 ∧ (r = 0 → 0 ≤ (h' 64 0)) ∧ 1 ≤ (h' 58 0) ∧ 1 ≤ (h' 58 1) ∧ r = f0 ∧ (h' 36 7) = (h 36 7) ∧ (h' 90 2) = (h 90 2) ∧ (h' 0 10) = (h 0 10) ∧ (h' 0 11) = (h 0 11) ∧ (h' 0 12) = (h 0 12) ∧ (h' 0 13) = (h 0 13) ∧ (h' 36 8) = (h 36 8) ∧ (h' 46 3) = (h 46 3) ∧ (h' 46 4) = (h 46 4) ∧ (h' 49 4) = (h 49 4) ∧ (h' 49 5) = (h 49 5) ∧ (h' 76 0) = (h 76 0)) ∧ (r = 0 → ∃ B : Int → Int, pt_ET t m 0 B ∧ tw_TB B (h' 58) (h' 59) (h' 60) (h' 61) (h' 62) (h' 63) (h' 64) (h' 65))) := by
  have gm := rg_1_1 I
  refine ov_T_wk (ov_T_rx (X := fun r z' h' => (r = 0 → ∃ B : Int → Int, pt_ET t m 0 B ∧ tw_TB B (h' 58) (h' 59) (h' 60) (h' 61) (h' 62) (h' 63) (h' 64) (h' 65))) (Q1 := fun r z' h' => ov_I F z' h' ∧ ((h' 1 1) = 0 ∧ -2147483648 ≤ r ∧ r ≤ 2147483647 ∧ (r = 0 → 0 ≤ (h' 64 0)) ∧ 1 ≤ (h' 58 0) ∧ 1 ≤ (h' 58 1) ∧ r = f0 ∧ (h' 36 7) = (h 36 7) ∧ (h' 90 2) = (h 90 2) ∧ (h' 0 10) = (h 0 10) ∧ (h' 0 11) = (h 0 11) ∧ (h' 0 12) = (h 0 12) ∧ (h' 0 13) = (h 0 13) ∧ (h' 36 8) = (h 36 8) ∧ (h' 46 3) = (h 46 3) ∧ (h' 46 4) = (h 46 4) ∧ (h' 49 4) = (h 49 4) ∧ (h' 49 5) = (h 49 5) ∧ (h' 76 0) = (h 76 0))) (c_Reader_readTown_3_58_s t m f0 hf et em d hd U I hw) (c_fReader_readTown_3_58 t m d hd U I (ov_kws hw (by decide +kernel)) em (by omega) et) (fun r z' h' r2 z2 h2 H a1 a2 er R1 R2 hr => ?_)) (fun r0 z' h' ⟨r, e, ⟨I', f⟩, x⟩ => ⟨r, e, I', f, x⟩)
  obtain ⟨I1, f⟩ := a1
  obtain ⟨I2, -, B, ar, tw, tb⟩ := a2
  have e : r = r2 := ov_i32 er (by omega) (by omega)
  have e2 : r2 = 0 := by omega
  rw [e2] at tw
  clear f ar
  exact ⟨B, tw, ov_TB_sm (tb e2) (by have ga := rg_58_0 I1; have gb := rg_58_0 I2; exact ov_fi (ov_sm_o (c := 9) R1 R2 (by decide) (zb_58 I1).2 (zs_58 I1) (zs_58 I2) 0 (by decide)) (by omega) (by omega)) (by have ga := rg_58_1 I1; have gb := rg_58_1 I2; exact ov_fi (ov_sm_o (c := 9) R1 R2 (by decide) (zb_58 I1).2 (zs_58 I1) (zs_58 I2) 1 (by decide)) (by omega) (by omega)) (by have ga := rg_58_8 I1; have gb := rg_58_8 I2; exact ov_fi (ov_sm_o (c := 9) R1 R2 (by decide) (zb_58 I1).2 (zs_58 I1) (zs_58 I2) 8 (by decide)) (by omega) (by omega)) (by have ga := rg_58_9 I1; have gb := rg_58_9 I2; exact ov_fi (ov_sm_o (c := 9) R1 R2 (by decide) (zb_58 I1).2 (zs_58 I1) (zs_58 I2) 9 (by decide)) (by omega) (by omega)) (by have ga := rg_58_10 I1; have gb := rg_58_10 I2; exact ov_fi (ov_sm_o (c := 9) R1 R2 (by decide) (zb_58 I1).2 (zs_58 I1) (zs_58 I2) 10 (by decide)) (by omega) (by omega)) (by have ga := rg_58_11 I1; have gb := rg_58_11 I2; exact ov_fi (ov_sm_o (c := 9) R1 R2 (by decide) (zb_58 I1).2 (zs_58 I1) (zs_58 I2) 11 (by decide)) (by omega) (by omega)) (fun c c0 c1 => by have ga := ra_59 I1 c; have gb := ra_59 I2 c; exact ov_el_i (ov_sm_a R1 R2 (by decide) (zb_59 I1).2 (zs_59 I1) (zs_59 I2) (by decide) c0 (by omega)) (by omega) (by omega)) (fun c c0 c1 => by have ga := ra_60 I1 c; have gb := ra_60 I2 c; exact ov_el_i (ov_sm_a R1 R2 (by decide) (zb_60 I1).2 (zs_60 I1) (zs_60 I2) (by decide) c0 (by omega)) (by omega) (by omega)) (fun c c0 c1 => by have ga := ra_61 I1 c; have gb := ra_61 I2 c; exact ov_el_i (ov_sm_a R1 R2 (by decide) (zb_61 I1).2 (zs_61 I1) (zs_61 I2) (by decide) c0 (by omega)) (by omega) (by omega)) (fun c c0 c1 => by have ga := ra_62 I1 c; have gb := ra_62 I2 c; exact ov_el_i (ov_sm_a R1 R2 (by decide) (zb_62 I1).2 (zs_62 I1) (zs_62 I2) (by decide) c0 (by omega)) (by omega) (by omega)) (fun c c0 c1 => by have ga := ra_63 I1 c; have gb := ra_63 I2 c; exact ov_el_i (ov_sm_a R1 R2 (by decide) (zb_63 I1).2 (zs_63 I1) (zs_63 I2) (by decide) c0 (by omega)) (by omega) (by omega)) (fun c c0 c1 => by have ga := ra_64 I1 c; have gb := ra_64 I2 c; exact ov_el_i (ov_sm_a R1 R2 (by decide) (zb_64 I1).2 (zs_64 I1) (zs_64 I2) (by decide) c0 (by omega)) (by omega) (by omega)) (fun c c0 c1 => by have ga := ra_65 I1 c; have gb := ra_65 I2 c; exact ov_el_i (ov_sm_a R1 R2 (by decide) (zb_65 I1).2 (zs_65 I1) (zs_65 I2) (by decide) c0 (by omega)) (by omega) (by omega))⟩
set_option maxHeartbeats 4000000 in
theorem c_Reader_readTown_3_70_t {u : ov_U} {F : ov_H} (t : Int → Int) (m f0 : Int) (hf : ∀ (f : Int) (B : Int → Int), pt_ET t m f B → f = f0) {z : ov_Z} {h : ov_H} (et : h 2 = t) (em : h 1 1 = m) (d : Nat) (hd : 42 ≤ d) (U : ov_cap u) (I : ov_I F z h) (hw : ov_kw 2416671047608540938108938 F) : ov_T u d ov_m24 [ov_r 3, ov_r 70] z h (fun r0 z' h' => ∃ r : Int, r0 = some (ov_i r) ∧ ov_I F z' h' ∧ ((h' 1 1) = 0 ∧ -2147483648 ≤ r ∧ r ≤ 2147483647 ∧ (r = 0 → 0 ≤ (h' 76 0)) ∧ 1 ≤ (h' 70 0) ∧ 1 ≤ (h' 70 1) ∧ r = f0 ∧ (h' 36 7) = (h 36 7) ∧ (h' 90 2) = (h 90 2) ∧ (h' 0 10) = (h 0 10) ∧ (h' 0 11) = (h 0 11) ∧ (h' 0 12) = (h 0 12) ∧ (h' 0 13) = (h 0 13) ∧ (h' 36 8) = (h 36 8) ∧ (h' 46 3) = (h 46 3) ∧ (h' 46 4) = (h 46 4) ∧ (h' 49 4) = (h 49 4) ∧ (h' 49 5) = (h 49 5) ∧ (h' 64 0) = (h 64 0)) ∧ (r = 0 → ∃ B : Int → Int, pt_ET t m 0 B ∧ tw_TB B (h' 70) (h' 71) (h' 72) (h' 73) (h' 74) (h' 75) (h' 76) (h' 77))) := by
  have gm := rg_1_1 I
  refine ov_T_wk (ov_T_rx (X := fun r z' h' => (r = 0 → ∃ B : Int → Int, pt_ET t m 0 B ∧ tw_TB B (h' 70) (h' 71) (h' 72) (h' 73) (h' 74) (h' 75) (h' 76) (h' 77))) (Q1 := fun r z' h' => ov_I F z' h' ∧ ((h' 1 1) = 0 ∧ -2147483648 ≤ r ∧ r ≤ 2147483647 ∧ (r = 0 → 0 ≤ (h' 76 0)) ∧ 1 ≤ (h' 70 0) ∧ 1 ≤ (h' 70 1) ∧ r = f0 ∧ (h' 36 7) = (h 36 7) ∧ (h' 90 2) = (h 90 2) ∧ (h' 0 10) = (h 0 10) ∧ (h' 0 11) = (h 0 11) ∧ (h' 0 12) = (h 0 12) ∧ (h' 0 13) = (h 0 13) ∧ (h' 36 8) = (h 36 8) ∧ (h' 46 3) = (h 46 3) ∧ (h' 46 4) = (h 46 4) ∧ (h' 49 4) = (h 49 4) ∧ (h' 49 5) = (h 49 5) ∧ (h' 64 0) = (h 64 0))) (c_Reader_readTown_3_70_s t m f0 hf et em d hd U I hw) (c_fReader_readTown_3_70 t m d hd U I (ov_kws hw (by decide +kernel)) em (by omega) et) (fun r z' h' r2 z2 h2 H a1 a2 er R1 R2 hr => ?_)) (fun r0 z' h' ⟨r, e, ⟨I', f⟩, x⟩ => ⟨r, e, I', f, x⟩)
  obtain ⟨I1, f⟩ := a1
  obtain ⟨I2, -, B, ar, tw, tb⟩ := a2
  have e : r = r2 := ov_i32 er (by omega) (by omega)
  have e2 : r2 = 0 := by omega
  rw [e2] at tw
  clear f ar
  exact ⟨B, tw, ov_TB_sm (tb e2) (by have ga := rg_70_0 I1; have gb := rg_70_0 I2; exact ov_fi (ov_sm_o (c := 9) R1 R2 (by decide) (zb_70 I1).2 (zs_70 I1) (zs_70 I2) 0 (by decide)) (by omega) (by omega)) (by have ga := rg_70_1 I1; have gb := rg_70_1 I2; exact ov_fi (ov_sm_o (c := 9) R1 R2 (by decide) (zb_70 I1).2 (zs_70 I1) (zs_70 I2) 1 (by decide)) (by omega) (by omega)) (by have ga := rg_70_8 I1; have gb := rg_70_8 I2; exact ov_fi (ov_sm_o (c := 9) R1 R2 (by decide) (zb_70 I1).2 (zs_70 I1) (zs_70 I2) 8 (by decide)) (by omega) (by omega)) (by have ga := rg_70_9 I1; have gb := rg_70_9 I2; exact ov_fi (ov_sm_o (c := 9) R1 R2 (by decide) (zb_70 I1).2 (zs_70 I1) (zs_70 I2) 9 (by decide)) (by omega) (by omega)) (by have ga := rg_70_10 I1; have gb := rg_70_10 I2; exact ov_fi (ov_sm_o (c := 9) R1 R2 (by decide) (zb_70 I1).2 (zs_70 I1) (zs_70 I2) 10 (by decide)) (by omega) (by omega)) (by have ga := rg_70_11 I1; have gb := rg_70_11 I2; exact ov_fi (ov_sm_o (c := 9) R1 R2 (by decide) (zb_70 I1).2 (zs_70 I1) (zs_70 I2) 11 (by decide)) (by omega) (by omega)) (fun c c0 c1 => by have ga := ra_71 I1 c; have gb := ra_71 I2 c; exact ov_el_i (ov_sm_a R1 R2 (by decide) (zb_71 I1).2 (zs_71 I1) (zs_71 I2) (by decide) c0 (by omega)) (by omega) (by omega)) (fun c c0 c1 => by have ga := ra_72 I1 c; have gb := ra_72 I2 c; exact ov_el_i (ov_sm_a R1 R2 (by decide) (zb_72 I1).2 (zs_72 I1) (zs_72 I2) (by decide) c0 (by omega)) (by omega) (by omega)) (fun c c0 c1 => by have ga := ra_73 I1 c; have gb := ra_73 I2 c; exact ov_el_i (ov_sm_a R1 R2 (by decide) (zb_73 I1).2 (zs_73 I1) (zs_73 I2) (by decide) c0 (by omega)) (by omega) (by omega)) (fun c c0 c1 => by have ga := ra_74 I1 c; have gb := ra_74 I2 c; exact ov_el_i (ov_sm_a R1 R2 (by decide) (zb_74 I1).2 (zs_74 I1) (zs_74 I2) (by decide) c0 (by omega)) (by omega) (by omega)) (fun c c0 c1 => by have ga := ra_75 I1 c; have gb := ra_75 I2 c; exact ov_el_i (ov_sm_a R1 R2 (by decide) (zb_75 I1).2 (zs_75 I1) (zs_75 I2) (by decide) c0 (by omega)) (by omega) (by omega)) (fun c c0 c1 => by have ga := ra_76 I1 c; have gb := ra_76 I2 c; exact ov_el_i (ov_sm_a R1 R2 (by decide) (zb_76 I1).2 (zs_76 I1) (zs_76 I2) (by decide) c0 (by omega)) (by omega) (by omega)) (fun c c0 c1 => by have ga := ra_77 I1 c; have gb := ra_77 I2 c; exact ov_el_i (ov_sm_a R1 R2 (by decide) (zb_77 I1).2 (zs_77 I1) (zs_77 I2) (by decide) c0 (by omega)) (by omega) (by omega))⟩

abbrev P_Walk_clear_82_t (F : ov_H) (z : ov_Z) (h : ov_H)  : Option ov_V → ov_Z → ov_H → Prop := fun r0 z' h' => r0 = none ∧ ov_I F z' h' ∧ ((h' 82 0) = 0 ∧ (h' 82 1) = 0 ∧ (h' 36 7) = (h 36 7) ∧ (h' 1 1) = (h 1 1) ∧ (h' 90 2) = (h 90 2) ∧ (h' 0 10) = (h 0 10) ∧ (h' 0 11) = (h 0 11) ∧ (h' 0 12) = (h 0 12) ∧ (h' 0 13) = (h 0 13) ∧ (h' 3 1) = (h 3 1) ∧ (h' 36 8) = (h 36 8) ∧ (h' 46 3) = (h 46 3) ∧ (h' 46 4) = (h 46 4) ∧ (h' 49 4) = (h 49 4) ∧ (h' 49 5) = (h 49 5) ∧ (h' 64 0) = (h 64 0) ∧ (h' 76 0) = (h 76 0))
set_option maxHeartbeats 4000000 in
theorem c_Walk_clear_82_t {u : ov_U} {F : ov_H} {z : ov_Z} {h : ov_H} (d : Nat) (hd : 0 ≤ d) (U : ov_cap u) (I : ov_I F z h) (hw : ov_kw 4835703278458516698824704 F) : ov_T u d ov_m80 [ov_r 82] z h (P_Walk_clear_82_t F z h) := by
  refine ov_en rfl (Nat.le_of_ble_eq_true rfl) ?_
  show ov_R u d ov_m80 0 [(0, ov_r 82)] [] z h (P_Walk_clear_82_t F z h)
  refine ov_blk (ls2 := [(0, ov_r 82)]) (st2 := [ov_i 0, ov_r 82]) (pc2 := 2) b_80_0_2 rfl rfl ?_
  refine ov_putf (x := 0) d_80_2 fl_Walk_21 (zb_82 I) (zs_82 I) rfl nk_0 rfl ?_
  have I1 := up_82_0 (x := 0) I (by omega) (hw 82 (by decide +kernel))
  refine ov_blk (ls2 := [(0, ov_r 82)]) (st2 := [ov_i 0, ov_r 82]) (pc2 := 7) b_80_5_2 rfl rfl ?_
  refine ov_putf (x := 0) d_80_7 fl_Walk_25 (zb_82 I1) (zs_82 I1) rfl nk_0 rfl ?_
  have I2 := up_82_1 (x := 0) I1 (by omega) (hw 82 (by decide +kernel))
  exact ov_retv (st := []) d_80_10 rfl ⟨rfl, I2, (by show 0 = 0 ∧ 0 = 0 ∧ (h 36 7) = (h 36 7) ∧ (h 1 1) = (h 1 1) ∧ (h 90 2) = (h 90 2) ∧ (h 0 10) = (h 0 10) ∧ (h 0 11) = (h 0 11) ∧ (h 0 12) = (h 0 12) ∧ (h 0 13) = (h 0 13) ∧ (h 3 1) = (h 3 1) ∧ (h 36 8) = (h 36 8) ∧ (h 46 3) = (h 46 3) ∧ (h 46 4) = (h 46 4) ∧ (h 49 4) = (h 49 4) ∧ (h 49 5) = (h 49 5) ∧ (h 64 0) = (h 64 0) ∧ (h 76 0) = (h 76 0); omega)⟩

abbrev P_Walk_clear_86_t (F : ov_H) (z : ov_Z) (h : ov_H)  : Option ov_V → ov_Z → ov_H → Prop := fun r0 z' h' => r0 = none ∧ ov_I F z' h' ∧ ((h' 86 0) = 0 ∧ (h' 86 1) = 0 ∧ (h' 36 7) = (h 36 7) ∧ (h' 1 1) = (h 1 1) ∧ (h' 90 2) = (h 90 2) ∧ (h' 0 10) = (h 0 10) ∧ (h' 0 11) = (h 0 11) ∧ (h' 0 12) = (h 0 12) ∧ (h' 0 13) = (h 0 13) ∧ (h' 3 1) = (h 3 1) ∧ (h' 36 8) = (h 36 8) ∧ (h' 46 3) = (h 46 3) ∧ (h' 46 4) = (h 46 4) ∧ (h' 49 4) = (h 49 4) ∧ (h' 49 5) = (h 49 5) ∧ (h' 64 0) = (h 64 0) ∧ (h' 76 0) = (h 76 0))
set_option maxHeartbeats 4000000 in
theorem c_Walk_clear_86_t {u : ov_U} {F : ov_H} {z : ov_Z} {h : ov_H} (d : Nat) (hd : 0 ≤ d) (U : ov_cap u) (I : ov_I F z h) (hw : ov_kw 77371252455336267181195264 F) : ov_T u d ov_m80 [ov_r 86] z h (P_Walk_clear_86_t F z h) := by
  refine ov_en rfl (Nat.le_of_ble_eq_true rfl) ?_
  show ov_R u d ov_m80 0 [(0, ov_r 86)] [] z h (P_Walk_clear_86_t F z h)
  refine ov_blk (ls2 := [(0, ov_r 86)]) (st2 := [ov_i 0, ov_r 86]) (pc2 := 2) b_80_0_2 rfl rfl ?_
  refine ov_putf (x := 0) d_80_2 fl_Walk_21 (zb_86 I) (zs_86 I) rfl nk_0 rfl ?_
  have I1 := up_86_0 (x := 0) I (by omega) (hw 86 (by decide +kernel))
  refine ov_blk (ls2 := [(0, ov_r 86)]) (st2 := [ov_i 0, ov_r 86]) (pc2 := 7) b_80_5_2 rfl rfl ?_
  refine ov_putf (x := 0) d_80_7 fl_Walk_25 (zb_86 I1) (zs_86 I1) rfl nk_0 rfl ?_
  have I2 := up_86_1 (x := 0) I1 (by omega) (hw 86 (by decide +kernel))
  exact ov_retv (st := []) d_80_10 rfl ⟨rfl, I2, (by show 0 = 0 ∧ 0 = 0 ∧ (h 36 7) = (h 36 7) ∧ (h 1 1) = (h 1 1) ∧ (h 90 2) = (h 90 2) ∧ (h 0 10) = (h 0 10) ∧ (h 0 11) = (h 0 11) ∧ (h 0 12) = (h 0 12) ∧ (h 0 13) = (h 0 13) ∧ (h 3 1) = (h 3 1) ∧ (h 36 8) = (h 36 8) ∧ (h 46 3) = (h 46 3) ∧ (h 46 4) = (h 46 4) ∧ (h 49 4) = (h 49 4) ∧ (h 49 5) = (h 49 5) ∧ (h 64 0) = (h 64 0) ∧ (h 76 0) = (h 76 0); omega)⟩

abbrev P_State_clear_4_t (F : ov_H) (z : ov_Z) (h : ov_H)  : Option ov_V → ov_Z → ov_H → Prop := fun r0 z' h' => r0 = none ∧ ov_I F z' h' ∧ ((h' 4 0) = 0 ∧ (h' 4 1) = 0 ∧ (h' 4 2) = 0 ∧ (h' 4 3) = 0 ∧ (h' 4 4) = 0 ∧ (h' 4 5) = 0 ∧ (h' 36 7) = (h 36 7) ∧ (h' 1 1) = (h 1 1) ∧ (h' 90 2) = (h 90 2) ∧ (h' 0 10) = (h 0 10) ∧ (h' 0 11) = (h 0 11) ∧ (h' 0 12) = (h 0 12) ∧ (h' 0 13) = (h 0 13) ∧ (h' 3 1) = (h 3 1) ∧ (h' 36 8) = (h 36 8) ∧ (h' 46 3) = (h 46 3) ∧ (h' 46 4) = (h 46 4) ∧ (h' 49 4) = (h 49 4) ∧ (h' 49 5) = (h 49 5) ∧ (h' 64 0) = (h 64 0) ∧ (h' 76 0) = (h 76 0))
set_option maxHeartbeats 4000000 in
theorem c_State_clear_4_t {u : ov_U} {F : ov_H} {z : ov_Z} {h : ov_H} (d : Nat) (hd : 0 ≤ d) (U : ov_cap u) (I : ov_I F z h) (hw : ov_kw 16 F) : ov_T u d ov_m81 [ov_r 4] z h (P_State_clear_4_t F z h) := by
  refine ov_en rfl (Nat.le_of_ble_eq_true rfl) ?_
  show ov_R u d ov_m81 0 [(0, ov_r 4)] [] z h (P_State_clear_4_t F z h)
  refine ov_blk (ls2 := [(0, ov_r 4)]) (st2 := [ov_i 0, ov_r 4]) (pc2 := 2) b_81_0_2 rfl rfl ?_
  refine ov_putf (x := 0) d_81_2 fl_State_24 (zb_4 I) (zs_4 I) rfl nk_0 rfl ?_
  have I1 := up_4_0 (x := 0) I (by omega) (hw 4 (by decide +kernel))
  refine ov_blk (ls2 := [(0, ov_r 4)]) (st2 := [ov_i 0, ov_r 4]) (pc2 := 7) b_81_5_2 rfl rfl ?_
  refine ov_putf (x := 0) d_81_7 fl_State_28 (zb_4 I1) (zs_4 I1) rfl nk_0 rfl ?_
  have I2 := up_4_1 (x := 0) I1 (by omega) (hw 4 (by decide +kernel))
  refine ov_blk (ls2 := [(0, ov_r 4)]) (st2 := [ov_i 0, ov_r 4]) (pc2 := 12) b_81_10_2 rfl rfl ?_
  refine ov_putf (x := 0) d_81_12 fl_State_31 (zb_4 I2) (zs_4 I2) rfl nk_0 rfl ?_
  have I3 := up_4_2 (x := 0) I2 (by omega) (hw 4 (by decide +kernel))
  refine ov_blk (ls2 := [(0, ov_r 4)]) (st2 := [ov_l 0, ov_r 4]) (pc2 := 17) b_81_15_2 rfl rfl ?_
  refine ov_putf (x := 0) d_81_17 fl_State_34 (zb_4 I3) (zs_4 I3) rfl nk_1 rfl ?_
  have I4 := up_4_3 (x := 0) I3 (hw 4 (by decide +kernel))
  refine ov_blk (ls2 := [(0, ov_r 4)]) (st2 := [ov_i 0, ov_r 4]) (pc2 := 22) b_81_20_2 rfl rfl ?_
  refine ov_putf (x := 0) d_81_22 fl_State_38 (zb_4 I4) (zs_4 I4) rfl nk_0 rfl ?_
  have I5 := up_4_4 (x := 0) I4 (by omega) (hw 4 (by decide +kernel))
  refine ov_blk (ls2 := [(0, ov_r 4)]) (st2 := [ov_i 0, ov_r 4]) (pc2 := 27) b_81_25_2 rfl rfl ?_
  refine ov_putf (x := 0) d_81_27 fl_State_41 (zb_4 I5) (zs_4 I5) rfl nk_0 rfl ?_
  have I6 := up_4_5 (x := 0) I5 (by omega) (hw 4 (by decide +kernel))
  exact ov_retv (st := []) d_81_30 rfl ⟨rfl, I6, (by show 0 = 0 ∧ 0 = 0 ∧ 0 = 0 ∧ 0 = 0 ∧ 0 = 0 ∧ 0 = 0 ∧ (h 36 7) = (h 36 7) ∧ (h 1 1) = (h 1 1) ∧ (h 90 2) = (h 90 2) ∧ (h 0 10) = (h 0 10) ∧ (h 0 11) = (h 0 11) ∧ (h 0 12) = (h 0 12) ∧ (h 0 13) = (h 0 13) ∧ (h 3 1) = (h 3 1) ∧ (h 36 8) = (h 36 8) ∧ (h 46 3) = (h 46 3) ∧ (h 46 4) = (h 46 4) ∧ (h 49 4) = (h 49 4) ∧ (h 49 5) = (h 49 5) ∧ (h 64 0) = (h 64 0) ∧ (h 76 0) = (h 76 0); omega)⟩

abbrev P_History_clear_9_t (F : ov_H) (z : ov_Z) (h : ov_H)  : Option ov_V → ov_Z → ov_H → Prop := fun r0 z' h' => r0 = none ∧ ov_I F z' h' ∧ ((h' 9 0) = 0 ∧ (h' 36 7) = (h 36 7) ∧ (h' 1 1) = (h 1 1) ∧ (h' 90 2) = (h 90 2) ∧ (h' 0 10) = (h 0 10) ∧ (h' 0 11) = (h 0 11) ∧ (h' 0 12) = (h 0 12) ∧ (h' 0 13) = (h 0 13) ∧ (h' 3 1) = (h 3 1) ∧ (h' 36 8) = (h 36 8) ∧ (h' 46 3) = (h 46 3) ∧ (h' 46 4) = (h 46 4) ∧ (h' 49 4) = (h 49 4) ∧ (h' 49 5) = (h 49 5) ∧ (h' 64 0) = (h 64 0) ∧ (h' 76 0) = (h 76 0))
set_option maxHeartbeats 4000000 in
theorem c_History_clear_9_t {u : ov_U} {F : ov_H} {z : ov_Z} {h : ov_H} (d : Nat) (hd : 0 ≤ d) (U : ov_cap u) (I : ov_I F z h) (hw : ov_kw 512 F) : ov_T u d ov_m82 [ov_r 9] z h (P_History_clear_9_t F z h) := by
  refine ov_en rfl (Nat.le_of_ble_eq_true rfl) ?_
  show ov_R u d ov_m82 0 [(0, ov_r 9)] [] z h (P_History_clear_9_t F z h)
  refine ov_blk (ls2 := [(0, ov_r 9)]) (st2 := [ov_i 0, ov_r 9]) (pc2 := 2) b_82_0_2 rfl rfl ?_
  refine ov_putf (x := 0) d_82_2 fl_History_23 (zb_9 I) (zs_9 I) rfl nk_0 rfl ?_
  have I1 := up_9_0 (x := 0) I (by omega) (hw 9 (by decide +kernel))
  exact ov_retv (st := []) d_82_5 rfl ⟨rfl, I1, (by show 0 = 0 ∧ (h 36 7) = (h 36 7) ∧ (h 1 1) = (h 1 1) ∧ (h 90 2) = (h 90 2) ∧ (h 0 10) = (h 0 10) ∧ (h 0 11) = (h 0 11) ∧ (h 0 12) = (h 0 12) ∧ (h 0 13) = (h 0 13) ∧ (h 3 1) = (h 3 1) ∧ (h 36 8) = (h 36 8) ∧ (h 46 3) = (h 46 3) ∧ (h 46 4) = (h 46 4) ∧ (h 49 4) = (h 49 4) ∧ (h 49 5) = (h 49 5) ∧ (h 64 0) = (h 64 0) ∧ (h 76 0) = (h 76 0); omega)⟩
theorem ov_up4 {h : ov_H} {a k x j : Int} : (k = j → ov_up h a k x a j = x) ∧ (¬ k = j → ov_up h a k x a j = h a j) := by
  rw [ov_up_row]
  exact ⟨fun e => by rw [e, ov_rs_eq], fun e => ov_rs_ne (fun q => e q.symm)⟩

abbrev P_OF_forgetMarks_0_m (F : ov_H) (z : ov_Z) (h : ov_H)  : Option ov_V → ov_Z → ov_H → Prop := fun r0 z' h' => r0 = none ∧ ov_I F z' h' ∧ ((h' 35 0) = 0 ∧ (h' 35 1) = 0 ∧ (h' 35 2) = 0 ∧ (h' 35 3) = 0 ∧ (h' 36 7) = (h 36 7) ∧ (h' 1 1) = (h 1 1) ∧ (h' 90 2) = (h 90 2) ∧ (h' 0 10) = (h 0 10) ∧ (h' 0 11) = (h 0 11) ∧ (h' 0 12) = (h 0 12) ∧ (h' 0 13) = (h 0 13) ∧ (h' 3 1) = (h 3 1) ∧ (h' 36 8) = (h 36 8) ∧ (h' 46 3) = (h 46 3) ∧ (h' 46 4) = (h 46 4) ∧ (h' 49 4) = (h 49 4) ∧ (h' 49 5) = (h 49 5) ∧ (h' 64 0) = (h 64 0) ∧ (h' 76 0) = (h 76 0))
set_option maxHeartbeats 4000000 in
theorem c_OF_forgetMarks_0_m {u : ov_U} {F : ov_H} {z : ov_Z} {h : ov_H} (d : Nat) (hd : 0 ≤ d) (U : ov_cap u) (I : ov_I F z h) (hw : ov_kw 34359738368 F) : ov_T u d ov_m83 [ov_r 0] z h (P_OF_forgetMarks_0_m F z h) := by
  refine ov_en rfl (Nat.le_of_ble_eq_true rfl) ?_
  show ov_R u d ov_m83 0 [(0, ov_r 0)] [] z h (P_OF_forgetMarks_0_m F z h)
  refine ov_blk (ls2 := [(0, ov_r 0), (1, ov_i 0)]) (st2 := []) (pc2 := 2) b_83_0_2 rfl rfl ?_
  have L4 : ∀ (n1 : Nat) (x1 : Int) (z5 : ov_Z) (h6 : ov_H) (I7 : ov_I F z5 h6) (q3 : 0 ≤ x1 ∧ x1 ≤ 4 ∧ (0 < x1 → (h6 35 0) = 0) ∧ (1 < x1 → (h6 35 1) = 0) ∧ (2 < x1 → (h6 35 2) = 0) ∧ (3 < x1 → (h6 35 3) = 0) ∧ (h6 36 7) = (h 36 7) ∧ (h6 1 1) = (h 1 1) ∧ (h6 90 2) = (h 90 2) ∧ (h6 0 10) = (h 0 10) ∧ (h6 0 11) = (h 0 11) ∧ (h6 0 12) = (h 0 12) ∧ (h6 0 13) = (h 0 13) ∧ (h6 3 1) = (h 3 1) ∧ (h6 36 8) = (h 36 8) ∧ (h6 46 3) = (h 46 3) ∧ (h6 46 4) = (h 46 4) ∧ (h6 49 4) = (h 49 4) ∧ (h6 49 5) = (h 49 5) ∧ (h6 64 0) = (h 64 0) ∧ (h6 76 0) = (h 76 0)), 4 - x1 < (n1 : Int) → ov_R u d ov_m83 2 [(0, ov_r 0), (1, ov_i x1)] [] z5 h6 (P_OF_forgetMarks_0_m F z h) := by
    intro n1
    induction n1 with
    | zero =>
      intro x1 z5 h6 I7 q3 hn8
      exact absurd hn8 (by omega)
    | succ n1 ih2 =>
      intro x1 z5 h6 I7 q3 hn8
      refine ov_blk (ls2 := [(0, ov_r 0), (1, ov_i x1)]) (st2 := [ov_r 0, ov_i x1]) (pc2 := 4) b_83_2_2 rfl rfl ?_
      refine ov_getf (v := ov_r 35) d_83_4 fl_OF_43 (zb_0 I7) (zs_0 I7) (congrArg ov_r (rg_0_5 I7)) ?_
      refine ov_alen d_83_7 (zb_35 I7) (zs_35 I7) (by decide) ?_
      show ov_R u d ov_m83 8 [(0, ov_r 0), (1, ov_i x1)] [ov_i 4, ov_i x1] z5 h6 (P_OF_forgetMarks_0_m F z h)
      refine ov_icge (tgt := 24) d_83_8 (by decide) (by omega) (by omega) (fun c9 => ?_) (fun c9 => ?_)
      · skip
        exact ov_retv (st := []) d_83_24 rfl ⟨rfl, I7, (by show (h6 35 0) = 0 ∧ (h6 35 1) = 0 ∧ (h6 35 2) = 0 ∧ (h6 35 3) = 0 ∧ (h6 36 7) = (h 36 7) ∧ (h6 1 1) = (h 1 1) ∧ (h6 90 2) = (h 90 2) ∧ (h6 0 10) = (h 0 10) ∧ (h6 0 11) = (h 0 11) ∧ (h6 0 12) = (h 0 12) ∧ (h6 0 13) = (h 0 13) ∧ (h6 3 1) = (h 3 1) ∧ (h6 36 8) = (h 36 8) ∧ (h6 46 3) = (h 46 3) ∧ (h6 46 4) = (h 46 4) ∧ (h6 49 4) = (h 49 4) ∧ (h6 49 5) = (h 49 5) ∧ (h6 64 0) = (h 64 0) ∧ (h6 76 0) = (h 76 0); omega)⟩
      · skip
        refine ov_blk (ls2 := [(0, ov_r 0), (1, ov_i x1)]) (st2 := [ov_r 0]) (pc2 := 12) b_83_11_1 rfl rfl ?_
        refine ov_getf (v := ov_r 35) d_83_12 fl_OF_43 (zb_0 I7) (zs_0 I7) (congrArg ov_r (rg_0_5 I7)) ?_
        refine ov_blk (ls2 := [(0, ov_r 0), (1, ov_i x1)]) (st2 := [ov_i 0, ov_i x1, ov_r 35]) (pc2 := 17) b_83_15_2 rfl rfl ?_
        refine ov_zast d_83_17 (zb_35 I7) (zs_35 I7) (by omega) (by omega) ?_
        have I10 := ua_35 (k := x1) (x := 0) I7 (by omega) (hw 35 (by decide +kernel))
        have u0 := ov_up4 (h := h6) (a := 35) (k := x1) (x := 0) (j := 0)
        have u1 := ov_up4 (h := h6) (a := 35) (k := x1) (x := 0) (j := 1)
        have u2 := ov_up4 (h := h6) (a := 35) (k := x1) (x := 0) (j := 2)
        have u3 := ov_up4 (h := h6) (a := 35) (k := x1) (x := 0) (j := 3)
        refine ov_blk (ls2 := [(0, ov_r 0), (1, ov_i (x1 + 1))]) (st2 := []) (pc2 := 21) b_83_18_1 rfl rfl ?_
        refine ov_goto (tgt := 2) d_83_21 (by decide) ?_
        exact ih2 (x1 + 1) _ _ I10 (by show 0 ≤ (x1 + 1) ∧ (x1 + 1) ≤ 4 ∧ (0 < (x1 + 1) → ((ov_up h6 35 x1 0) 35 0) = 0) ∧ (1 < (x1 + 1) → ((ov_up h6 35 x1 0) 35 1) = 0) ∧ (2 < (x1 + 1) → ((ov_up h6 35 x1 0) 35 2) = 0) ∧ (3 < (x1 + 1) → ((ov_up h6 35 x1 0) 35 3) = 0) ∧ (h6 36 7) = (h 36 7) ∧ (h6 1 1) = (h 1 1) ∧ (h6 90 2) = (h 90 2) ∧ (h6 0 10) = (h 0 10) ∧ (h6 0 11) = (h 0 11) ∧ (h6 0 12) = (h 0 12) ∧ (h6 0 13) = (h 0 13) ∧ (h6 3 1) = (h 3 1) ∧ (h6 36 8) = (h 36 8) ∧ (h6 46 3) = (h 46 3) ∧ (h6 46 4) = (h 46 4) ∧ (h6 49 4) = (h 49 4) ∧ (h6 49 5) = (h 49 5) ∧ (h6 64 0) = (h 64 0) ∧ (h6 76 0) = (h 76 0); omega) (by omega)
  exact L4 5 0 _ _ I (by show 0 ≤ 0 ∧ 0 ≤ 4 ∧ (0 < 0 → (h 35 0) = 0) ∧ (1 < 0 → (h 35 1) = 0) ∧ (2 < 0 → (h 35 2) = 0) ∧ (3 < 0 → (h 35 3) = 0) ∧ (h 36 7) = (h 36 7) ∧ (h 1 1) = (h 1 1) ∧ (h 90 2) = (h 90 2) ∧ (h 0 10) = (h 0 10) ∧ (h 0 11) = (h 0 11) ∧ (h 0 12) = (h 0 12) ∧ (h 0 13) = (h 0 13) ∧ (h 3 1) = (h 3 1) ∧ (h 36 8) = (h 36 8) ∧ (h 46 3) = (h 46 3) ∧ (h 46 4) = (h 46 4) ∧ (h 49 4) = (h 49 4) ∧ (h 49 5) = (h 49 5) ∧ (h 64 0) = (h 64 0) ∧ (h 76 0) = (h 76 0); omega) (by omega)

abbrev P_OF_town_0_58 (t : Int → Int) (m f0 : Int) (F : ov_H) (z : ov_Z) (h : ov_H)  : Option ov_V → ov_Z → ov_H → Prop := fun r0 z' h' => ∃ r : Int, r0 = some (ov_i r) ∧ ov_I F z' h' ∧ ((h' 1 1) = 0 ∧ ((h' 36 7) = 1 → (h' 36 8) = (h' 0 10)) ∧ ((h' 0 10) = 58 ∧ (h' 0 11) = 70 ∧ 0 ≤ (h' 64 0) ∧ 1 ≤ (h' 58 0) ∧ 1 ≤ (h' 58 1) ∨ (h' 0 10) = 70 ∧ (h' 0 11) = 58 ∧ 0 ≤ (h' 76 0) ∧ 1 ≤ (h' 70 0) ∧ 1 ≤ (h' 70 1)) ∧ r = f0 ∧ (h' 90 2) = (h 90 2) ∧ (h' 0 12) = (h 0 12) ∧ (h' 0 13) = (h 0 13) ∧ (h' 46 3) = (h 46 3) ∧ (h' 46 4) = (h 46 4) ∧ (h' 49 4) = (h 49 4) ∧ (h' 49 5) = (h 49 5)) ∧ ((¬ r = 0 ∧ ∀ b : Int, ov_kq b → Nat.testBit 1235523367949541426528780277 b.toNat = true → h' b = h b) ∨ (r = 0 ∧ h' 0 10 = 70 ∧ (∃ B : Int → Int, pt_ET t m 0 B ∧ tw_TB B (h' 70) (h' 71) (h' 72) (h' 73) (h' 74) (h' 75) (h' 76) (h' 77)) ∧ (h' 35 0) = 0 ∧ (h' 35 1) = 0 ∧ (h' 35 2) = 0 ∧ (h' 35 3) = 0 ∧ (h' 4 0) = 0 ∧ (h' 4 1) = 0 ∧ (h' 4 2) = 0 ∧ (h' 4 3) = 0 ∧ (h' 4 4) = 0 ∧ (h' 4 5) = 0 ∧ (h' 9 0) = 0 ∧ ((h' 0 12) = 82 ∧ (h' 82 0) = 0 ∧ (h' 82 1) = 0 ∨ (h' 0 12) = 86 ∧ (h' 86 0) = 0 ∧ (h' 86 1) = 0)))
set_option maxHeartbeats 4000000 in
theorem c_OF_town_0_58 {u : ov_U} {F : ov_H} (t : Int → Int) (m f0 : Int) (hf : ∀ (f : Int) (B : Int → Int), pt_ET t m f B → f = f0) {z : ov_Z} {h : ov_H} (d : Nat) (hd : 50 ≤ d) (U : ov_cap u) (I : ov_I F z h) (hw : ov_kw 84623626781403359177867803 F) (k0 : h 0 10 = 58) (k1 : h 0 11 = 70) (p0 : h 36 7 = 1 → h 36 8 = h 0 10) (p1 : 0 ≤ h 64 0) (p2 : F (-5) 58 = 1) (et : h 2 = t) (em : h 1 1 = m) : ov_T u d ov_m23 [ov_r 0] z h (P_OF_town_0_58 t m f0 F z h) := by
  refine ov_en rfl (Nat.le_of_ble_eq_true rfl) ?_
  show ov_R u d ov_m23 0 [(0, ov_r 0)] [] z h (P_OF_town_0_58 t m f0 F z h)
  refine ov_blk (ls2 := [(0, ov_r 0)]) (st2 := [ov_r 0]) (pc2 := 1) b_23_0_1 rfl rfl ?_
  refine ov_getf (v := ov_r 3) d_23_1 fl_OF_21 (zb_0 I) (zs_0 I) (congrArg ov_r (rg_0_1 I)) ?_
  refine ov_blk (ls2 := [(0, ov_r 0)]) (st2 := [ov_r 0, ov_r 3]) (pc2 := 5) b_23_4_1 rfl rfl ?_
  refine ov_getf (v := ov_r 70) d_23_5 fl_OF_82 (zb_0 I) (zs_0 I) (congrArg ov_r k1) ?_
  refine ov_cV (as := [ov_r 70]) (st := []) (d2 := d - 1) d_23_8 lk_OF_109 rfl (Nat.le_of_ble_eq_true rfl) (c := 6) (zb_3 I) (zs_3 I) ⟨by decide, rfl⟩ (by omega) (c_Reader_readTown_3_70_t t m f0 hf et em (d - 1) (by omega) U (ov_I_ff (M := 1235523367949541426528780277) I) (ov_kw_ff (ov_kws hw (by decide +kernel)) (by decide +kernel))) ?_
  rintro _ z3 h4 ⟨v2, rfl, I5, f1, xt⟩
  have I5k := I5
  have I5 := ov_I_fr I I5k
  have er6 : h4 4 = h 4 := ov_ff_k I5k (Or.inl (by decide)) (by decide +kernel)
  have ek7 : h4 4 0 = (h 4 0) := congrFun er6 0
  have ek8 : h4 4 1 = (h 4 1) := congrFun er6 1
  have ek9 : h4 4 2 = (h 4 2) := congrFun er6 2
  have ek10 : h4 4 3 = (h 4 3) := congrFun er6 3
  have ek11 : h4 4 4 = (h 4 4) := congrFun er6 4
  have ek12 : h4 4 5 = (h 4 5) := congrFun er6 5
  have er13 : h4 9 = h 9 := ov_ff_k I5k (Or.inl (by decide)) (by decide +kernel)
  have ek14 : h4 9 0 = (h 9 0) := congrFun er13 0
  have er15 : h4 35 = h 35 := ov_ff_k I5k (Or.inl (by decide)) (by decide +kernel)
  have ek16 : h4 35 0 = (h 35 0) := congrFun er15 0
  have ek17 : h4 35 1 = (h 35 1) := congrFun er15 1
  have ek18 : h4 35 2 = (h 35 2) := congrFun er15 2
  have ek19 : h4 35 3 = (h 35 3) := congrFun er15 3
  have er20 : h4 82 = h 82 := ov_ff_k I5k (Or.inr (by decide)) (by decide +kernel)
  have ek21 : h4 82 0 = (h 82 0) := congrFun er20 0
  have ek22 : h4 82 1 = (h 82 1) := congrFun er20 1
  have er23 : h4 86 = h 86 := ov_ff_k I5k (Or.inr (by decide)) (by decide +kernel)
  have ek24 : h4 86 0 = (h 86 0) := congrFun er23 0
  have ek25 : h4 86 1 = (h 86 1) := congrFun er23 1
  show ov_R u d ov_m23 11 [(0, ov_r 0)] [ov_i v2] z3 h4 (P_OF_town_0_58 t m f0 F z h)
  have f26 : (h4 1 1) = 0 ∧ -2147483648 ≤ v2 ∧ v2 ≤ 2147483647 ∧ (v2 = 0 → 0 ≤ (h4 76 0)) ∧ 1 ≤ (h4 70 0) ∧ 1 ≤ (h4 70 1) ∧ v2 = f0 ∧ (h4 36 7) = (h 36 7) ∧ (h4 90 2) = (h 90 2) ∧ (h4 0 10) = (h 0 10) ∧ (h4 0 11) = (h 0 11) ∧ (h4 0 12) = (h 0 12) ∧ (h4 0 13) = (h 0 13) ∧ (h4 36 8) = (h 36 8) ∧ (h4 46 3) = (h 46 3) ∧ (h4 46 4) = (h 46 4) ∧ (h4 49 4) = (h 49 4) ∧ (h4 49 5) = (h 49 5) ∧ (h4 64 0) = (h 64 0) := f1
  clear f1
  have e27 : h4 0 10 = 58 := by omega
  have e28 : h4 0 11 = 70 := by omega
  have I29 := ov_I_fu (T := 70) I5 (by omega)
  refine ov_blk (ls2 := [(0, ov_r 0), (1, ov_i v2)]) (st2 := [ov_i v2]) (pc2 := 13) b_23_11_2 rfl rfl ?_
  refine ov_ifne (tgt := 63) d_23_13 (by decide) (by omega) (fun c30 => ?_) (fun c30 => ?_)
  · skip
    refine ov_blk (ls2 := [(0, ov_r 0), (1, ov_i v2)]) (st2 := [ov_i v2]) (pc2 := 64) b_23_63_1 rfl rfl ?_
    have gf31 : 1 ≤ (h4 70 0) ∧ 1 ≤ (h4 70 1) := ov_I_fg (h := h4) (T := 70) (by omega) I29
    have gk : F (-5) 58 = 1 := by omega
    have gf32 : 1 ≤ (h4 58 0) ∧ 1 ≤ (h4 58 1) := ov_I_fk (h := h4) (S := 58) (by omega) I29 gk
    exact ov_reti (st := []) d_23_64 rfl ⟨_, rfl, (ov_I_fd I29), (by show (h4 1 1) = 0 ∧ ((h4 36 7) = 1 → (h4 36 8) = (h4 0 10)) ∧ ((h4 0 10) = 58 ∧ (h4 0 11) = 70 ∧ 0 ≤ (h4 64 0) ∧ 1 ≤ (h4 58 0) ∧ 1 ≤ (h4 58 1) ∨ (h4 0 10) = 70 ∧ (h4 0 11) = 58 ∧ 0 ≤ (h4 76 0) ∧ 1 ≤ (h4 70 0) ∧ 1 ≤ (h4 70 1)) ∧ v2 = f0 ∧ (h4 90 2) = (h 90 2) ∧ (h4 0 12) = (h 0 12) ∧ (h4 0 13) = (h 0 13) ∧ (h4 46 3) = (h 46 3) ∧ (h4 46 4) = (h 46 4) ∧ (h4 49 4) = (h 49 4) ∧ (h4 49 5) = (h 49 5); omega), (Or.inl ⟨by omega, fun b q e => ov_ff_k I5k q e⟩)⟩
  · skip
    refine ov_blk (ls2 := [(0, ov_r 0), (1, ov_i v2)]) (st2 := [ov_r 0]) (pc2 := 17) b_23_16_1 rfl rfl ?_
    refine ov_getf (v := ov_r 58) d_23_17 fl_OF_78 (zb_0 I29) (zs_0 I29) (congrArg ov_r e27) ?_
    refine ov_blk (ls2 := [(0, ov_r 0), (1, ov_i v2), (2, ov_r 58)]) (st2 := [ov_r 0, ov_r 0]) (pc2 := 23) b_23_20_3 rfl rfl ?_
    refine ov_getf (v := ov_r 70) d_23_23 fl_OF_82 (zb_0 I29) (zs_0 I29) (congrArg ov_r e28) ?_
    refine ov_putf (x := 70) d_23_26 fl_OF_78 (zb_0 I29) (zs_0 I29) rfl nk_2 rfl ?_
    have I33 := up_0_10 (x := 70) I29 (by omega) ((ov_kwu hw) 0 (by decide +kernel))
    refine ov_blk (ls2 := [(0, ov_r 0), (1, ov_i v2), (2, ov_r 58)]) (st2 := [ov_r 58, ov_r 0]) (pc2 := 31) b_23_29_2 rfl rfl ?_
    refine ov_putf (x := 58) d_23_31 fl_OF_82 (zb_0 I33) (zs_0 I33) rfl nk_2 rfl ?_
    have I34 := up_0_11 (x := 58) I33 (by omega) ((ov_kwu hw) 0 (by decide +kernel))
    refine ov_blk (ls2 := [(0, ov_r 0), (1, ov_i v2), (2, ov_r 58)]) (st2 := [ov_r 0]) (pc2 := 35) b_23_34_1 rfl rfl ?_
    rcases rg_0_12 I29 with e35 | e35
    · skip
      refine ov_getf (v := ov_r 82) d_23_35 fl_OF_88 (zb_0 I34) (zs_0 I34) (congrArg ov_r e35) ?_
      refine ov_cV (as := []) (st := []) (d2 := d - 1) d_23_38 lk_OF_113 rfl (Nat.le_of_ble_eq_true rfl) (c := 10) (zb_82 I34) (zs_82 I34) ⟨by decide, rfl⟩ (by omega) (c_Walk_clear_82_t (d - 1) (by omega) U (ov_I_ff (M := 77672303318619241423307280) I34) (ov_kw_ff (ov_kws (ov_kwu hw) (by decide +kernel)) (by decide +kernel))) ?_
      rintro _ z37 h38 ⟨rfl, I39, f36⟩
      have I39k := I39
      have I39 := ov_I_fr I34 I39k
      have er40 : h38 4 = (ov_up (ov_up h4 0 10 70) 0 11 58) 4 := ov_ff_k I39k (Or.inl (by decide)) (by decide +kernel)
      have ek41 : h38 4 0 = (h4 4 0) := congrFun er40 0
      have ek42 : h38 4 1 = (h4 4 1) := congrFun er40 1
      have ek43 : h38 4 2 = (h4 4 2) := congrFun er40 2
      have ek44 : h38 4 3 = (h4 4 3) := congrFun er40 3
      have ek45 : h38 4 4 = (h4 4 4) := congrFun er40 4
      have ek46 : h38 4 5 = (h4 4 5) := congrFun er40 5
      have er47 : h38 9 = (ov_up (ov_up h4 0 10 70) 0 11 58) 9 := ov_ff_k I39k (Or.inl (by decide)) (by decide +kernel)
      have ek48 : h38 9 0 = (h4 9 0) := congrFun er47 0
      have er49 : h38 35 = (ov_up (ov_up h4 0 10 70) 0 11 58) 35 := ov_ff_k I39k (Or.inl (by decide)) (by decide +kernel)
      have ek50 : h38 35 0 = (h4 35 0) := congrFun er49 0
      have ek51 : h38 35 1 = (h4 35 1) := congrFun er49 1
      have ek52 : h38 35 2 = (h4 35 2) := congrFun er49 2
      have ek53 : h38 35 3 = (h4 35 3) := congrFun er49 3
      have er54 : h38 70 = (ov_up (ov_up h4 0 10 70) 0 11 58) 70 := ov_ff_k I39k (Or.inr (by decide)) (by decide +kernel)
      have er55 : h38 71 = (ov_up (ov_up h4 0 10 70) 0 11 58) 71 := ov_ff_k I39k (Or.inr (by decide)) (by decide +kernel)
      have er56 : h38 72 = (ov_up (ov_up h4 0 10 70) 0 11 58) 72 := ov_ff_k I39k (Or.inr (by decide)) (by decide +kernel)
      have er57 : h38 73 = (ov_up (ov_up h4 0 10 70) 0 11 58) 73 := ov_ff_k I39k (Or.inr (by decide)) (by decide +kernel)
      have er58 : h38 74 = (ov_up (ov_up h4 0 10 70) 0 11 58) 74 := ov_ff_k I39k (Or.inr (by decide)) (by decide +kernel)
      have er59 : h38 75 = (ov_up (ov_up h4 0 10 70) 0 11 58) 75 := ov_ff_k I39k (Or.inr (by decide)) (by decide +kernel)
      have er60 : h38 76 = (ov_up (ov_up h4 0 10 70) 0 11 58) 76 := ov_ff_k I39k (Or.inr (by decide)) (by decide +kernel)
      have er61 : h38 77 = (ov_up (ov_up h4 0 10 70) 0 11 58) 77 := ov_ff_k I39k (Or.inr (by decide)) (by decide +kernel)
      have er62 : h38 86 = (ov_up (ov_up h4 0 10 70) 0 11 58) 86 := ov_ff_k I39k (Or.inr (by decide)) (by decide +kernel)
      have ek63 : h38 86 0 = (h4 86 0) := congrFun er62 0
      have ek64 : h38 86 1 = (h4 86 1) := congrFun er62 1
      show ov_R u d ov_m23 41 [(0, ov_r 0), (1, ov_i v2), (2, ov_r 58)] [] z37 h38 (P_OF_town_0_58 t m f0 F z h)
      have f65 : (h38 82 0) = 0 ∧ (h38 82 1) = 0 ∧ (h38 36 7) = (h4 36 7) ∧ (h38 1 1) = (h4 1 1) ∧ (h38 90 2) = (h4 90 2) ∧ (h38 0 10) = 70 ∧ (h38 0 11) = 58 ∧ (h38 0 12) = (h4 0 12) ∧ (h38 0 13) = (h4 0 13) ∧ (h38 3 1) = (h4 3 1) ∧ (h38 36 8) = (h4 36 8) ∧ (h38 46 3) = (h4 46 3) ∧ (h38 46 4) = (h4 46 4) ∧ (h38 49 4) = (h4 49 4) ∧ (h38 49 5) = (h4 49 5) ∧ (h38 64 0) = (h4 64 0) ∧ (h38 76 0) = (h4 76 0) := f36
      clear f36
      have e66 : h38 0 10 = 70 := by omega
      have e67 : h38 0 11 = 58 := by omega
      have e68 : h38 0 12 = 82 := by omega
      refine ov_blk (ls2 := [(0, ov_r 0), (1, ov_i v2), (2, ov_r 58)]) (st2 := [ov_r 0]) (pc2 := 42) b_23_41_1 rfl rfl ?_
      refine ov_getf (v := ov_r 4) d_23_42 fl_OF_28 (zb_0 I39) (zs_0 I39) (congrArg ov_r (rg_0_2 I39)) ?_
      refine ov_cV (as := []) (st := []) (d2 := d - 1) d_23_45 lk_OF_114 rfl (Nat.le_of_ble_eq_true rfl) (c := 7) (zb_4 I39) (zs_4 I39) ⟨by decide, rfl⟩ (by omega) (c_State_clear_4_t (d - 1) (by omega) U (ov_I_ff (M := 82508006597077758122131968) I39) (ov_kw_ff (ov_kws (ov_kwu hw) (by decide +kernel)) (by decide +kernel))) ?_
      rintro _ z70 h71 ⟨rfl, I72, f69⟩
      have I72k := I72
      have I72 := ov_I_fr I39 I72k
      have er73 : h71 9 = h38 9 := ov_ff_k I72k (Or.inl (by decide)) (by decide +kernel)
      have ek74 : h71 9 0 = (h38 9 0) := congrFun er73 0
      have er75 : h71 35 = h38 35 := ov_ff_k I72k (Or.inl (by decide)) (by decide +kernel)
      have ek76 : h71 35 0 = (h38 35 0) := congrFun er75 0
      have ek77 : h71 35 1 = (h38 35 1) := congrFun er75 1
      have ek78 : h71 35 2 = (h38 35 2) := congrFun er75 2
      have ek79 : h71 35 3 = (h38 35 3) := congrFun er75 3
      have er80 : h71 70 = h38 70 := ov_ff_k I72k (Or.inr (by decide)) (by decide +kernel)
      have er81 : h71 71 = h38 71 := ov_ff_k I72k (Or.inr (by decide)) (by decide +kernel)
      have er82 : h71 72 = h38 72 := ov_ff_k I72k (Or.inr (by decide)) (by decide +kernel)
      have er83 : h71 73 = h38 73 := ov_ff_k I72k (Or.inr (by decide)) (by decide +kernel)
      have er84 : h71 74 = h38 74 := ov_ff_k I72k (Or.inr (by decide)) (by decide +kernel)
      have er85 : h71 75 = h38 75 := ov_ff_k I72k (Or.inr (by decide)) (by decide +kernel)
      have er86 : h71 76 = h38 76 := ov_ff_k I72k (Or.inr (by decide)) (by decide +kernel)
      have er87 : h71 77 = h38 77 := ov_ff_k I72k (Or.inr (by decide)) (by decide +kernel)
      have er88 : h71 82 = h38 82 := ov_ff_k I72k (Or.inr (by decide)) (by decide +kernel)
      have ek89 : h71 82 0 = (h38 82 0) := congrFun er88 0
      have ek90 : h71 82 1 = (h38 82 1) := congrFun er88 1
      have er91 : h71 86 = h38 86 := ov_ff_k I72k (Or.inr (by decide)) (by decide +kernel)
      have ek92 : h71 86 0 = (h38 86 0) := congrFun er91 0
      have ek93 : h71 86 1 = (h38 86 1) := congrFun er91 1
      show ov_R u d ov_m23 48 [(0, ov_r 0), (1, ov_i v2), (2, ov_r 58)] [] z70 h71 (P_OF_town_0_58 t m f0 F z h)
      have f94 : (h71 4 0) = 0 ∧ (h71 4 1) = 0 ∧ (h71 4 2) = 0 ∧ (h71 4 3) = 0 ∧ (h71 4 4) = 0 ∧ (h71 4 5) = 0 ∧ (h71 36 7) = (h38 36 7) ∧ (h71 1 1) = (h38 1 1) ∧ (h71 90 2) = (h38 90 2) ∧ (h71 0 10) = (h38 0 10) ∧ (h71 0 11) = (h38 0 11) ∧ (h71 0 12) = (h38 0 12) ∧ (h71 0 13) = (h38 0 13) ∧ (h71 3 1) = (h38 3 1) ∧ (h71 36 8) = (h38 36 8) ∧ (h71 46 3) = (h38 46 3) ∧ (h71 46 4) = (h38 46 4) ∧ (h71 49 4) = (h38 49 4) ∧ (h71 49 5) = (h38 49 5) ∧ (h71 64 0) = (h38 64 0) ∧ (h71 76 0) = (h38 76 0) := f69
      clear f69
      have e95 : h71 0 10 = 70 := by omega
      have e96 : h71 0 11 = 58 := by omega
      have e97 : h71 0 12 = 82 := by omega
      refine ov_blk (ls2 := [(0, ov_r 0), (1, ov_i v2), (2, ov_r 58)]) (st2 := [ov_r 0]) (pc2 := 49) b_23_48_1 rfl rfl ?_
      refine ov_getf (v := ov_r 9) d_23_49 fl_OF_35 (zb_0 I72) (zs_0 I72) (congrArg ov_r (rg_0_3 I72)) ?_
      refine ov_cV (as := []) (st := []) (d2 := d - 1) d_23_52 lk_OF_115 rfl (Nat.le_of_ble_eq_true rfl) (c := 3) (zb_9 I72) (zs_9 I72) ⟨by decide, rfl⟩ (by omega) (c_History_clear_9_t (d - 1) (by omega) U (ov_I_ff (M := 82508006597077758122131472) I72) (ov_kw_ff (ov_kws (ov_kwu hw) (by decide +kernel)) (by decide +kernel))) ?_
      rintro _ z99 h100 ⟨rfl, I101, f98⟩
      have I101k := I101
      have I101 := ov_I_fr I72 I101k
      have er102 : h100 4 = h71 4 := ov_ff_k I101k (Or.inl (by decide)) (by decide +kernel)
      have ek103 : h100 4 0 = (h71 4 0) := congrFun er102 0
      have ek104 : h100 4 1 = (h71 4 1) := congrFun er102 1
      have ek105 : h100 4 2 = (h71 4 2) := congrFun er102 2
      have ek106 : h100 4 3 = (h71 4 3) := congrFun er102 3
      have ek107 : h100 4 4 = (h71 4 4) := congrFun er102 4
      have ek108 : h100 4 5 = (h71 4 5) := congrFun er102 5
      have er109 : h100 35 = h71 35 := ov_ff_k I101k (Or.inl (by decide)) (by decide +kernel)
      have ek110 : h100 35 0 = (h71 35 0) := congrFun er109 0
      have ek111 : h100 35 1 = (h71 35 1) := congrFun er109 1
      have ek112 : h100 35 2 = (h71 35 2) := congrFun er109 2
      have ek113 : h100 35 3 = (h71 35 3) := congrFun er109 3
      have er114 : h100 70 = h71 70 := ov_ff_k I101k (Or.inr (by decide)) (by decide +kernel)
      have er115 : h100 71 = h71 71 := ov_ff_k I101k (Or.inr (by decide)) (by decide +kernel)
      have er116 : h100 72 = h71 72 := ov_ff_k I101k (Or.inr (by decide)) (by decide +kernel)
      have er117 : h100 73 = h71 73 := ov_ff_k I101k (Or.inr (by decide)) (by decide +kernel)
      have er118 : h100 74 = h71 74 := ov_ff_k I101k (Or.inr (by decide)) (by decide +kernel)
      have er119 : h100 75 = h71 75 := ov_ff_k I101k (Or.inr (by decide)) (by decide +kernel)
      have er120 : h100 76 = h71 76 := ov_ff_k I101k (Or.inr (by decide)) (by decide +kernel)
      have er121 : h100 77 = h71 77 := ov_ff_k I101k (Or.inr (by decide)) (by decide +kernel)
      have er122 : h100 82 = h71 82 := ov_ff_k I101k (Or.inr (by decide)) (by decide +kernel)
      have ek123 : h100 82 0 = (h71 82 0) := congrFun er122 0
      have ek124 : h100 82 1 = (h71 82 1) := congrFun er122 1
      have er125 : h100 86 = h71 86 := ov_ff_k I101k (Or.inr (by decide)) (by decide +kernel)
      have ek126 : h100 86 0 = (h71 86 0) := congrFun er125 0
      have ek127 : h100 86 1 = (h71 86 1) := congrFun er125 1
      show ov_R u d ov_m23 55 [(0, ov_r 0), (1, ov_i v2), (2, ov_r 58)] [] z99 h100 (P_OF_town_0_58 t m f0 F z h)
      have f128 : (h100 9 0) = 0 ∧ (h100 36 7) = (h71 36 7) ∧ (h100 1 1) = (h71 1 1) ∧ (h100 90 2) = (h71 90 2) ∧ (h100 0 10) = (h71 0 10) ∧ (h100 0 11) = (h71 0 11) ∧ (h100 0 12) = (h71 0 12) ∧ (h100 0 13) = (h71 0 13) ∧ (h100 3 1) = (h71 3 1) ∧ (h100 36 8) = (h71 36 8) ∧ (h100 46 3) = (h71 46 3) ∧ (h100 46 4) = (h71 46 4) ∧ (h100 49 4) = (h71 49 4) ∧ (h100 49 5) = (h71 49 5) ∧ (h100 64 0) = (h71 64 0) ∧ (h100 76 0) = (h71 76 0) := f98
      clear f98
      have e129 : h100 0 10 = 70 := by omega
      have e130 : h100 0 11 = 58 := by omega
      have e131 : h100 0 12 = 82 := by omega
      refine ov_blk (ls2 := [(0, ov_r 0), (1, ov_i v2), (2, ov_r 58)]) (st2 := [ov_r 0]) (pc2 := 56) b_23_55_1 rfl rfl ?_
      refine ov_cV (as := []) (st := []) (d2 := d - 1) d_23_56 lk_OF_116 rfl (Nat.le_of_ble_eq_true rfl) (c := 0) (zb_0 I101) (zs_0 I101) ⟨by decide, rfl⟩ (by omega) (c_OF_forgetMarks_0_m (d - 1) (by omega) U (ov_I_ff (M := 82508006597077723762393616) I101) (ov_kw_ff (ov_kws (ov_kwu hw) (by decide +kernel)) (by decide +kernel))) ?_
      rintro _ z133 h134 ⟨rfl, I135, f132⟩
      have I135k := I135
      have I135 := ov_I_fr I101 I135k
      have er136 : h134 4 = h100 4 := ov_ff_k I135k (Or.inl (by decide)) (by decide +kernel)
      have ek137 : h134 4 0 = (h100 4 0) := congrFun er136 0
      have ek138 : h134 4 1 = (h100 4 1) := congrFun er136 1
      have ek139 : h134 4 2 = (h100 4 2) := congrFun er136 2
      have ek140 : h134 4 3 = (h100 4 3) := congrFun er136 3
      have ek141 : h134 4 4 = (h100 4 4) := congrFun er136 4
      have ek142 : h134 4 5 = (h100 4 5) := congrFun er136 5
      have er143 : h134 9 = h100 9 := ov_ff_k I135k (Or.inl (by decide)) (by decide +kernel)
      have ek144 : h134 9 0 = (h100 9 0) := congrFun er143 0
      have er145 : h134 70 = h100 70 := ov_ff_k I135k (Or.inr (by decide)) (by decide +kernel)
      have er146 : h134 71 = h100 71 := ov_ff_k I135k (Or.inr (by decide)) (by decide +kernel)
      have er147 : h134 72 = h100 72 := ov_ff_k I135k (Or.inr (by decide)) (by decide +kernel)
      have er148 : h134 73 = h100 73 := ov_ff_k I135k (Or.inr (by decide)) (by decide +kernel)
      have er149 : h134 74 = h100 74 := ov_ff_k I135k (Or.inr (by decide)) (by decide +kernel)
      have er150 : h134 75 = h100 75 := ov_ff_k I135k (Or.inr (by decide)) (by decide +kernel)
      have er151 : h134 76 = h100 76 := ov_ff_k I135k (Or.inr (by decide)) (by decide +kernel)
      have er152 : h134 77 = h100 77 := ov_ff_k I135k (Or.inr (by decide)) (by decide +kernel)
      have er153 : h134 82 = h100 82 := ov_ff_k I135k (Or.inr (by decide)) (by decide +kernel)
      have ek154 : h134 82 0 = (h100 82 0) := congrFun er153 0
      have ek155 : h134 82 1 = (h100 82 1) := congrFun er153 1
      have er156 : h134 86 = h100 86 := ov_ff_k I135k (Or.inr (by decide)) (by decide +kernel)
      have ek157 : h134 86 0 = (h100 86 0) := congrFun er156 0
      have ek158 : h134 86 1 = (h100 86 1) := congrFun er156 1
      show ov_R u d ov_m23 59 [(0, ov_r 0), (1, ov_i v2), (2, ov_r 58)] [] z133 h134 (P_OF_town_0_58 t m f0 F z h)
      have f159 : (h134 35 0) = 0 ∧ (h134 35 1) = 0 ∧ (h134 35 2) = 0 ∧ (h134 35 3) = 0 ∧ (h134 36 7) = (h100 36 7) ∧ (h134 1 1) = (h100 1 1) ∧ (h134 90 2) = (h100 90 2) ∧ (h134 0 10) = (h100 0 10) ∧ (h134 0 11) = (h100 0 11) ∧ (h134 0 12) = (h100 0 12) ∧ (h134 0 13) = (h100 0 13) ∧ (h134 3 1) = (h100 3 1) ∧ (h134 36 8) = (h100 36 8) ∧ (h134 46 3) = (h100 46 3) ∧ (h134 46 4) = (h100 46 4) ∧ (h134 49 4) = (h100 49 4) ∧ (h134 49 5) = (h100 49 5) ∧ (h134 64 0) = (h100 64 0) ∧ (h134 76 0) = (h100 76 0) := f132
      clear f132
      have e160 : h134 0 10 = 70 := by omega
      have e161 : h134 0 11 = 58 := by omega
      have e162 : h134 0 12 = 82 := by omega
      refine ov_blk (ls2 := [(0, ov_r 0), (1, ov_i v2), (2, ov_r 58)]) (st2 := [ov_r 0]) (pc2 := 60) b_23_59_1 rfl rfl ?_
      refine ov_cV (as := []) (st := []) (d2 := d - 1) d_23_60 lk_OF_119 rfl (Nat.le_of_ble_eq_true rfl) (c := 0) (zb_0 I135) (zs_0 I135) ⟨by decide, rfl⟩ (by omega) (c_OF_forgetReckonings_0 (d - 1) (by omega) U (ov_I_ff (M := 82508006597077758122131984) I135)) ?_
      rintro _ z164 h165 ⟨rfl, I166, f163⟩
      have I166k := I166
      have I166 := ov_I_fr I135 I166k
      have er167 : h165 4 = h134 4 := ov_ff_k I166k (Or.inl (by decide)) (by decide +kernel)
      have ek168 : h165 4 0 = (h134 4 0) := congrFun er167 0
      have ek169 : h165 4 1 = (h134 4 1) := congrFun er167 1
      have ek170 : h165 4 2 = (h134 4 2) := congrFun er167 2
      have ek171 : h165 4 3 = (h134 4 3) := congrFun er167 3
      have ek172 : h165 4 4 = (h134 4 4) := congrFun er167 4
      have ek173 : h165 4 5 = (h134 4 5) := congrFun er167 5
      have er174 : h165 9 = h134 9 := ov_ff_k I166k (Or.inl (by decide)) (by decide +kernel)
      have ek175 : h165 9 0 = (h134 9 0) := congrFun er174 0
      have er176 : h165 35 = h134 35 := ov_ff_k I166k (Or.inl (by decide)) (by decide +kernel)
      have ek177 : h165 35 0 = (h134 35 0) := congrFun er176 0
      have ek178 : h165 35 1 = (h134 35 1) := congrFun er176 1
      have ek179 : h165 35 2 = (h134 35 2) := congrFun er176 2
      have ek180 : h165 35 3 = (h134 35 3) := congrFun er176 3
      have er181 : h165 70 = h134 70 := ov_ff_k I166k (Or.inr (by decide)) (by decide +kernel)
      have er182 : h165 71 = h134 71 := ov_ff_k I166k (Or.inr (by decide)) (by decide +kernel)
      have er183 : h165 72 = h134 72 := ov_ff_k I166k (Or.inr (by decide)) (by decide +kernel)
      have er184 : h165 73 = h134 73 := ov_ff_k I166k (Or.inr (by decide)) (by decide +kernel)
      have er185 : h165 74 = h134 74 := ov_ff_k I166k (Or.inr (by decide)) (by decide +kernel)
      have er186 : h165 75 = h134 75 := ov_ff_k I166k (Or.inr (by decide)) (by decide +kernel)
      have er187 : h165 76 = h134 76 := ov_ff_k I166k (Or.inr (by decide)) (by decide +kernel)
      have er188 : h165 77 = h134 77 := ov_ff_k I166k (Or.inr (by decide)) (by decide +kernel)
      have er189 : h165 82 = h134 82 := ov_ff_k I166k (Or.inr (by decide)) (by decide +kernel)
      have ek190 : h165 82 0 = (h134 82 0) := congrFun er189 0
      have ek191 : h165 82 1 = (h134 82 1) := congrFun er189 1
      have er192 : h165 86 = h134 86 := ov_ff_k I166k (Or.inr (by decide)) (by decide +kernel)
      have ek193 : h165 86 0 = (h134 86 0) := congrFun er192 0
      have ek194 : h165 86 1 = (h134 86 1) := congrFun er192 1
      show ov_R u d ov_m23 63 [(0, ov_r 0), (1, ov_i v2), (2, ov_r 58)] [] z164 h165 (P_OF_town_0_58 t m f0 F z h)
      have f195 : (h165 36 7) = 0 ∧ (h165 1 1) = (h134 1 1) ∧ (h165 90 2) = (h134 90 2) ∧ (h165 0 10) = (h134 0 10) ∧ (h165 0 11) = (h134 0 11) ∧ (h165 0 12) = (h134 0 12) ∧ (h165 0 13) = (h134 0 13) ∧ (h165 3 1) = (h134 3 1) ∧ (h165 36 8) = (h134 36 8) ∧ (h165 46 3) = (h134 46 3) ∧ (h165 46 4) = (h134 46 4) ∧ (h165 49 4) = (h134 49 4) ∧ (h165 49 5) = (h134 49 5) ∧ (h165 64 0) = (h134 64 0) ∧ (h165 76 0) = (h134 76 0) := f163
      clear f163
      have e196 : h165 0 10 = 70 := by omega
      have e197 : h165 0 11 = 58 := by omega
      have e198 : h165 0 12 = 82 := by omega
      refine ov_blk (ls2 := [(0, ov_r 0), (1, ov_i v2), (2, ov_r 58)]) (st2 := [ov_i v2]) (pc2 := 64) b_23_63_1 rfl rfl ?_
      have gf199 : 1 ≤ (h165 70 0) ∧ 1 ≤ (h165 70 1) := ov_I_fg (h := h165) (T := 70) (by omega) I166
      have gk : F (-5) 58 = 1 := by omega
      have gf200 : 1 ≤ (h165 58 0) ∧ 1 ≤ (h165 58 1) := ov_I_fk (h := h165) (S := 58) (by omega) I166 gk
      exact ov_reti (st := []) d_23_64 rfl ⟨_, rfl, (ov_I_fd I166), (by show (h165 1 1) = 0 ∧ ((h165 36 7) = 1 → (h165 36 8) = (h165 0 10)) ∧ ((h165 0 10) = 58 ∧ (h165 0 11) = 70 ∧ 0 ≤ (h165 64 0) ∧ 1 ≤ (h165 58 0) ∧ 1 ≤ (h165 58 1) ∨ (h165 0 10) = 70 ∧ (h165 0 11) = 58 ∧ 0 ≤ (h165 76 0) ∧ 1 ≤ (h165 70 0) ∧ 1 ≤ (h165 70 1)) ∧ v2 = f0 ∧ (h165 90 2) = (h 90 2) ∧ (h165 0 12) = (h 0 12) ∧ (h165 0 13) = (h 0 13) ∧ (h165 46 3) = (h 46 3) ∧ (h165 46 4) = (h 46 4) ∧ (h165 49 4) = (h 49 4) ∧ (h165 49 5) = (h 49 5); omega), (Or.inr ⟨by omega, by omega, (by obtain ⟨B, tw, tb⟩ := xt (by omega); exact ⟨B, tw, by rw [show h165 70 = h4 70 from (Eq.trans er181 (Eq.trans er145 (Eq.trans er114 (Eq.trans er80 er54)))), show h165 71 = h4 71 from (Eq.trans er182 (Eq.trans er146 (Eq.trans er115 (Eq.trans er81 er55)))), show h165 72 = h4 72 from (Eq.trans er183 (Eq.trans er147 (Eq.trans er116 (Eq.trans er82 er56)))), show h165 73 = h4 73 from (Eq.trans er184 (Eq.trans er148 (Eq.trans er117 (Eq.trans er83 er57)))), show h165 74 = h4 74 from (Eq.trans er185 (Eq.trans er149 (Eq.trans er118 (Eq.trans er84 er58)))), show h165 75 = h4 75 from (Eq.trans er186 (Eq.trans er150 (Eq.trans er119 (Eq.trans er85 er59)))), show h165 76 = h4 76 from (Eq.trans er187 (Eq.trans er151 (Eq.trans er120 (Eq.trans er86 er60)))), show h165 77 = h4 77 from (Eq.trans er188 (Eq.trans er152 (Eq.trans er121 (Eq.trans er87 er61))))]; exact tb⟩), by omega⟩)⟩
    · skip
      refine ov_getf (v := ov_r 86) d_23_35 fl_OF_88 (zb_0 I34) (zs_0 I34) (congrArg ov_r e35) ?_
      refine ov_cV (as := []) (st := []) (d2 := d - 1) d_23_38 lk_OF_113 rfl (Nat.le_of_ble_eq_true rfl) (c := 10) (zb_86 I34) (zs_86 I34) ⟨by decide, rfl⟩ (by omega) (c_Walk_clear_86_t (d - 1) (by omega) U (ov_I_ff (M := 5136754141741490940936720) I34) (ov_kw_ff (ov_kws (ov_kwu hw) (by decide +kernel)) (by decide +kernel))) ?_
      rintro _ z202 h203 ⟨rfl, I204, f201⟩
      have I204k := I204
      have I204 := ov_I_fr I34 I204k
      have er205 : h203 4 = (ov_up (ov_up h4 0 10 70) 0 11 58) 4 := ov_ff_k I204k (Or.inl (by decide)) (by decide +kernel)
      have ek206 : h203 4 0 = (h4 4 0) := congrFun er205 0
      have ek207 : h203 4 1 = (h4 4 1) := congrFun er205 1
      have ek208 : h203 4 2 = (h4 4 2) := congrFun er205 2
      have ek209 : h203 4 3 = (h4 4 3) := congrFun er205 3
      have ek210 : h203 4 4 = (h4 4 4) := congrFun er205 4
      have ek211 : h203 4 5 = (h4 4 5) := congrFun er205 5
      have er212 : h203 9 = (ov_up (ov_up h4 0 10 70) 0 11 58) 9 := ov_ff_k I204k (Or.inl (by decide)) (by decide +kernel)
      have ek213 : h203 9 0 = (h4 9 0) := congrFun er212 0
      have er214 : h203 35 = (ov_up (ov_up h4 0 10 70) 0 11 58) 35 := ov_ff_k I204k (Or.inl (by decide)) (by decide +kernel)
      have ek215 : h203 35 0 = (h4 35 0) := congrFun er214 0
      have ek216 : h203 35 1 = (h4 35 1) := congrFun er214 1
      have ek217 : h203 35 2 = (h4 35 2) := congrFun er214 2
      have ek218 : h203 35 3 = (h4 35 3) := congrFun er214 3
      have er219 : h203 70 = (ov_up (ov_up h4 0 10 70) 0 11 58) 70 := ov_ff_k I204k (Or.inr (by decide)) (by decide +kernel)
      have er220 : h203 71 = (ov_up (ov_up h4 0 10 70) 0 11 58) 71 := ov_ff_k I204k (Or.inr (by decide)) (by decide +kernel)
      have er221 : h203 72 = (ov_up (ov_up h4 0 10 70) 0 11 58) 72 := ov_ff_k I204k (Or.inr (by decide)) (by decide +kernel)
      have er222 : h203 73 = (ov_up (ov_up h4 0 10 70) 0 11 58) 73 := ov_ff_k I204k (Or.inr (by decide)) (by decide +kernel)
      have er223 : h203 74 = (ov_up (ov_up h4 0 10 70) 0 11 58) 74 := ov_ff_k I204k (Or.inr (by decide)) (by decide +kernel)
      have er224 : h203 75 = (ov_up (ov_up h4 0 10 70) 0 11 58) 75 := ov_ff_k I204k (Or.inr (by decide)) (by decide +kernel)
      have er225 : h203 76 = (ov_up (ov_up h4 0 10 70) 0 11 58) 76 := ov_ff_k I204k (Or.inr (by decide)) (by decide +kernel)
      have er226 : h203 77 = (ov_up (ov_up h4 0 10 70) 0 11 58) 77 := ov_ff_k I204k (Or.inr (by decide)) (by decide +kernel)
      have er227 : h203 82 = (ov_up (ov_up h4 0 10 70) 0 11 58) 82 := ov_ff_k I204k (Or.inr (by decide)) (by decide +kernel)
      have ek228 : h203 82 0 = (h4 82 0) := congrFun er227 0
      have ek229 : h203 82 1 = (h4 82 1) := congrFun er227 1
      show ov_R u d ov_m23 41 [(0, ov_r 0), (1, ov_i v2), (2, ov_r 58)] [] z202 h203 (P_OF_town_0_58 t m f0 F z h)
      have f230 : (h203 86 0) = 0 ∧ (h203 86 1) = 0 ∧ (h203 36 7) = (h4 36 7) ∧ (h203 1 1) = (h4 1 1) ∧ (h203 90 2) = (h4 90 2) ∧ (h203 0 10) = 70 ∧ (h203 0 11) = 58 ∧ (h203 0 12) = (h4 0 12) ∧ (h203 0 13) = (h4 0 13) ∧ (h203 3 1) = (h4 3 1) ∧ (h203 36 8) = (h4 36 8) ∧ (h203 46 3) = (h4 46 3) ∧ (h203 46 4) = (h4 46 4) ∧ (h203 49 4) = (h4 49 4) ∧ (h203 49 5) = (h4 49 5) ∧ (h203 64 0) = (h4 64 0) ∧ (h203 76 0) = (h4 76 0) := f201
      clear f201
      have e231 : h203 0 10 = 70 := by omega
      have e232 : h203 0 11 = 58 := by omega
      have e233 : h203 0 12 = 86 := by omega
      refine ov_blk (ls2 := [(0, ov_r 0), (1, ov_i v2), (2, ov_r 58)]) (st2 := [ov_r 0]) (pc2 := 42) b_23_41_1 rfl rfl ?_
      refine ov_getf (v := ov_r 4) d_23_42 fl_OF_28 (zb_0 I204) (zs_0 I204) (congrArg ov_r (rg_0_2 I204)) ?_
      refine ov_cV (as := []) (st := []) (d2 := d - 1) d_23_45 lk_OF_114 rfl (Nat.le_of_ble_eq_true rfl) (c := 7) (zb_4 I204) (zs_4 I204) ⟨by decide, rfl⟩ (by omega) (c_State_clear_4_t (d - 1) (by omega) U (ov_I_ff (M := 82508006597077758122131968) I204) (ov_kw_ff (ov_kws (ov_kwu hw) (by decide +kernel)) (by decide +kernel))) ?_
      rintro _ z235 h236 ⟨rfl, I237, f234⟩
      have I237k := I237
      have I237 := ov_I_fr I204 I237k
      have er238 : h236 9 = h203 9 := ov_ff_k I237k (Or.inl (by decide)) (by decide +kernel)
      have ek239 : h236 9 0 = (h203 9 0) := congrFun er238 0
      have er240 : h236 35 = h203 35 := ov_ff_k I237k (Or.inl (by decide)) (by decide +kernel)
      have ek241 : h236 35 0 = (h203 35 0) := congrFun er240 0
      have ek242 : h236 35 1 = (h203 35 1) := congrFun er240 1
      have ek243 : h236 35 2 = (h203 35 2) := congrFun er240 2
      have ek244 : h236 35 3 = (h203 35 3) := congrFun er240 3
      have er245 : h236 70 = h203 70 := ov_ff_k I237k (Or.inr (by decide)) (by decide +kernel)
      have er246 : h236 71 = h203 71 := ov_ff_k I237k (Or.inr (by decide)) (by decide +kernel)
      have er247 : h236 72 = h203 72 := ov_ff_k I237k (Or.inr (by decide)) (by decide +kernel)
      have er248 : h236 73 = h203 73 := ov_ff_k I237k (Or.inr (by decide)) (by decide +kernel)
      have er249 : h236 74 = h203 74 := ov_ff_k I237k (Or.inr (by decide)) (by decide +kernel)
      have er250 : h236 75 = h203 75 := ov_ff_k I237k (Or.inr (by decide)) (by decide +kernel)
      have er251 : h236 76 = h203 76 := ov_ff_k I237k (Or.inr (by decide)) (by decide +kernel)
      have er252 : h236 77 = h203 77 := ov_ff_k I237k (Or.inr (by decide)) (by decide +kernel)
      have er253 : h236 82 = h203 82 := ov_ff_k I237k (Or.inr (by decide)) (by decide +kernel)
      have ek254 : h236 82 0 = (h203 82 0) := congrFun er253 0
      have ek255 : h236 82 1 = (h203 82 1) := congrFun er253 1
      have er256 : h236 86 = h203 86 := ov_ff_k I237k (Or.inr (by decide)) (by decide +kernel)
      have ek257 : h236 86 0 = (h203 86 0) := congrFun er256 0
      have ek258 : h236 86 1 = (h203 86 1) := congrFun er256 1
      show ov_R u d ov_m23 48 [(0, ov_r 0), (1, ov_i v2), (2, ov_r 58)] [] z235 h236 (P_OF_town_0_58 t m f0 F z h)
      have f259 : (h236 4 0) = 0 ∧ (h236 4 1) = 0 ∧ (h236 4 2) = 0 ∧ (h236 4 3) = 0 ∧ (h236 4 4) = 0 ∧ (h236 4 5) = 0 ∧ (h236 36 7) = (h203 36 7) ∧ (h236 1 1) = (h203 1 1) ∧ (h236 90 2) = (h203 90 2) ∧ (h236 0 10) = (h203 0 10) ∧ (h236 0 11) = (h203 0 11) ∧ (h236 0 12) = (h203 0 12) ∧ (h236 0 13) = (h203 0 13) ∧ (h236 3 1) = (h203 3 1) ∧ (h236 36 8) = (h203 36 8) ∧ (h236 46 3) = (h203 46 3) ∧ (h236 46 4) = (h203 46 4) ∧ (h236 49 4) = (h203 49 4) ∧ (h236 49 5) = (h203 49 5) ∧ (h236 64 0) = (h203 64 0) ∧ (h236 76 0) = (h203 76 0) := f234
      clear f234
      have e260 : h236 0 10 = 70 := by omega
      have e261 : h236 0 11 = 58 := by omega
      have e262 : h236 0 12 = 86 := by omega
      refine ov_blk (ls2 := [(0, ov_r 0), (1, ov_i v2), (2, ov_r 58)]) (st2 := [ov_r 0]) (pc2 := 49) b_23_48_1 rfl rfl ?_
      refine ov_getf (v := ov_r 9) d_23_49 fl_OF_35 (zb_0 I237) (zs_0 I237) (congrArg ov_r (rg_0_3 I237)) ?_
      refine ov_cV (as := []) (st := []) (d2 := d - 1) d_23_52 lk_OF_115 rfl (Nat.le_of_ble_eq_true rfl) (c := 3) (zb_9 I237) (zs_9 I237) ⟨by decide, rfl⟩ (by omega) (c_History_clear_9_t (d - 1) (by omega) U (ov_I_ff (M := 82508006597077758122131472) I237) (ov_kw_ff (ov_kws (ov_kwu hw) (by decide +kernel)) (by decide +kernel))) ?_
      rintro _ z264 h265 ⟨rfl, I266, f263⟩
      have I266k := I266
      have I266 := ov_I_fr I237 I266k
      have er267 : h265 4 = h236 4 := ov_ff_k I266k (Or.inl (by decide)) (by decide +kernel)
      have ek268 : h265 4 0 = (h236 4 0) := congrFun er267 0
      have ek269 : h265 4 1 = (h236 4 1) := congrFun er267 1
      have ek270 : h265 4 2 = (h236 4 2) := congrFun er267 2
      have ek271 : h265 4 3 = (h236 4 3) := congrFun er267 3
      have ek272 : h265 4 4 = (h236 4 4) := congrFun er267 4
      have ek273 : h265 4 5 = (h236 4 5) := congrFun er267 5
      have er274 : h265 35 = h236 35 := ov_ff_k I266k (Or.inl (by decide)) (by decide +kernel)
      have ek275 : h265 35 0 = (h236 35 0) := congrFun er274 0
      have ek276 : h265 35 1 = (h236 35 1) := congrFun er274 1
      have ek277 : h265 35 2 = (h236 35 2) := congrFun er274 2
      have ek278 : h265 35 3 = (h236 35 3) := congrFun er274 3
      have er279 : h265 70 = h236 70 := ov_ff_k I266k (Or.inr (by decide)) (by decide +kernel)
      have er280 : h265 71 = h236 71 := ov_ff_k I266k (Or.inr (by decide)) (by decide +kernel)
      have er281 : h265 72 = h236 72 := ov_ff_k I266k (Or.inr (by decide)) (by decide +kernel)
      have er282 : h265 73 = h236 73 := ov_ff_k I266k (Or.inr (by decide)) (by decide +kernel)
      have er283 : h265 74 = h236 74 := ov_ff_k I266k (Or.inr (by decide)) (by decide +kernel)
      have er284 : h265 75 = h236 75 := ov_ff_k I266k (Or.inr (by decide)) (by decide +kernel)
      have er285 : h265 76 = h236 76 := ov_ff_k I266k (Or.inr (by decide)) (by decide +kernel)
      have er286 : h265 77 = h236 77 := ov_ff_k I266k (Or.inr (by decide)) (by decide +kernel)
      have er287 : h265 82 = h236 82 := ov_ff_k I266k (Or.inr (by decide)) (by decide +kernel)
      have ek288 : h265 82 0 = (h236 82 0) := congrFun er287 0
      have ek289 : h265 82 1 = (h236 82 1) := congrFun er287 1
      have er290 : h265 86 = h236 86 := ov_ff_k I266k (Or.inr (by decide)) (by decide +kernel)
      have ek291 : h265 86 0 = (h236 86 0) := congrFun er290 0
      have ek292 : h265 86 1 = (h236 86 1) := congrFun er290 1
      show ov_R u d ov_m23 55 [(0, ov_r 0), (1, ov_i v2), (2, ov_r 58)] [] z264 h265 (P_OF_town_0_58 t m f0 F z h)
      have f293 : (h265 9 0) = 0 ∧ (h265 36 7) = (h236 36 7) ∧ (h265 1 1) = (h236 1 1) ∧ (h265 90 2) = (h236 90 2) ∧ (h265 0 10) = (h236 0 10) ∧ (h265 0 11) = (h236 0 11) ∧ (h265 0 12) = (h236 0 12) ∧ (h265 0 13) = (h236 0 13) ∧ (h265 3 1) = (h236 3 1) ∧ (h265 36 8) = (h236 36 8) ∧ (h265 46 3) = (h236 46 3) ∧ (h265 46 4) = (h236 46 4) ∧ (h265 49 4) = (h236 49 4) ∧ (h265 49 5) = (h236 49 5) ∧ (h265 64 0) = (h236 64 0) ∧ (h265 76 0) = (h236 76 0) := f263
      clear f263
      have e294 : h265 0 10 = 70 := by omega
      have e295 : h265 0 11 = 58 := by omega
      have e296 : h265 0 12 = 86 := by omega
      refine ov_blk (ls2 := [(0, ov_r 0), (1, ov_i v2), (2, ov_r 58)]) (st2 := [ov_r 0]) (pc2 := 56) b_23_55_1 rfl rfl ?_
      refine ov_cV (as := []) (st := []) (d2 := d - 1) d_23_56 lk_OF_116 rfl (Nat.le_of_ble_eq_true rfl) (c := 0) (zb_0 I266) (zs_0 I266) ⟨by decide, rfl⟩ (by omega) (c_OF_forgetMarks_0_m (d - 1) (by omega) U (ov_I_ff (M := 82508006597077723762393616) I266) (ov_kw_ff (ov_kws (ov_kwu hw) (by decide +kernel)) (by decide +kernel))) ?_
      rintro _ z298 h299 ⟨rfl, I300, f297⟩
      have I300k := I300
      have I300 := ov_I_fr I266 I300k
      have er301 : h299 4 = h265 4 := ov_ff_k I300k (Or.inl (by decide)) (by decide +kernel)
      have ek302 : h299 4 0 = (h265 4 0) := congrFun er301 0
      have ek303 : h299 4 1 = (h265 4 1) := congrFun er301 1
      have ek304 : h299 4 2 = (h265 4 2) := congrFun er301 2
      have ek305 : h299 4 3 = (h265 4 3) := congrFun er301 3
      have ek306 : h299 4 4 = (h265 4 4) := congrFun er301 4
      have ek307 : h299 4 5 = (h265 4 5) := congrFun er301 5
      have er308 : h299 9 = h265 9 := ov_ff_k I300k (Or.inl (by decide)) (by decide +kernel)
      have ek309 : h299 9 0 = (h265 9 0) := congrFun er308 0
      have er310 : h299 70 = h265 70 := ov_ff_k I300k (Or.inr (by decide)) (by decide +kernel)
      have er311 : h299 71 = h265 71 := ov_ff_k I300k (Or.inr (by decide)) (by decide +kernel)
      have er312 : h299 72 = h265 72 := ov_ff_k I300k (Or.inr (by decide)) (by decide +kernel)
      have er313 : h299 73 = h265 73 := ov_ff_k I300k (Or.inr (by decide)) (by decide +kernel)
      have er314 : h299 74 = h265 74 := ov_ff_k I300k (Or.inr (by decide)) (by decide +kernel)
      have er315 : h299 75 = h265 75 := ov_ff_k I300k (Or.inr (by decide)) (by decide +kernel)
      have er316 : h299 76 = h265 76 := ov_ff_k I300k (Or.inr (by decide)) (by decide +kernel)
      have er317 : h299 77 = h265 77 := ov_ff_k I300k (Or.inr (by decide)) (by decide +kernel)
      have er318 : h299 82 = h265 82 := ov_ff_k I300k (Or.inr (by decide)) (by decide +kernel)
      have ek319 : h299 82 0 = (h265 82 0) := congrFun er318 0
      have ek320 : h299 82 1 = (h265 82 1) := congrFun er318 1
      have er321 : h299 86 = h265 86 := ov_ff_k I300k (Or.inr (by decide)) (by decide +kernel)
      have ek322 : h299 86 0 = (h265 86 0) := congrFun er321 0
      have ek323 : h299 86 1 = (h265 86 1) := congrFun er321 1
      show ov_R u d ov_m23 59 [(0, ov_r 0), (1, ov_i v2), (2, ov_r 58)] [] z298 h299 (P_OF_town_0_58 t m f0 F z h)
      have f324 : (h299 35 0) = 0 ∧ (h299 35 1) = 0 ∧ (h299 35 2) = 0 ∧ (h299 35 3) = 0 ∧ (h299 36 7) = (h265 36 7) ∧ (h299 1 1) = (h265 1 1) ∧ (h299 90 2) = (h265 90 2) ∧ (h299 0 10) = (h265 0 10) ∧ (h299 0 11) = (h265 0 11) ∧ (h299 0 12) = (h265 0 12) ∧ (h299 0 13) = (h265 0 13) ∧ (h299 3 1) = (h265 3 1) ∧ (h299 36 8) = (h265 36 8) ∧ (h299 46 3) = (h265 46 3) ∧ (h299 46 4) = (h265 46 4) ∧ (h299 49 4) = (h265 49 4) ∧ (h299 49 5) = (h265 49 5) ∧ (h299 64 0) = (h265 64 0) ∧ (h299 76 0) = (h265 76 0) := f297
      clear f297
      have e325 : h299 0 10 = 70 := by omega
      have e326 : h299 0 11 = 58 := by omega
      have e327 : h299 0 12 = 86 := by omega
      refine ov_blk (ls2 := [(0, ov_r 0), (1, ov_i v2), (2, ov_r 58)]) (st2 := [ov_r 0]) (pc2 := 60) b_23_59_1 rfl rfl ?_
      refine ov_cV (as := []) (st := []) (d2 := d - 1) d_23_60 lk_OF_119 rfl (Nat.le_of_ble_eq_true rfl) (c := 0) (zb_0 I300) (zs_0 I300) ⟨by decide, rfl⟩ (by omega) (c_OF_forgetReckonings_0 (d - 1) (by omega) U (ov_I_ff (M := 82508006597077758122131984) I300)) ?_
      rintro _ z329 h330 ⟨rfl, I331, f328⟩
      have I331k := I331
      have I331 := ov_I_fr I300 I331k
      have er332 : h330 4 = h299 4 := ov_ff_k I331k (Or.inl (by decide)) (by decide +kernel)
      have ek333 : h330 4 0 = (h299 4 0) := congrFun er332 0
      have ek334 : h330 4 1 = (h299 4 1) := congrFun er332 1
      have ek335 : h330 4 2 = (h299 4 2) := congrFun er332 2
      have ek336 : h330 4 3 = (h299 4 3) := congrFun er332 3
      have ek337 : h330 4 4 = (h299 4 4) := congrFun er332 4
      have ek338 : h330 4 5 = (h299 4 5) := congrFun er332 5
      have er339 : h330 9 = h299 9 := ov_ff_k I331k (Or.inl (by decide)) (by decide +kernel)
      have ek340 : h330 9 0 = (h299 9 0) := congrFun er339 0
      have er341 : h330 35 = h299 35 := ov_ff_k I331k (Or.inl (by decide)) (by decide +kernel)
      have ek342 : h330 35 0 = (h299 35 0) := congrFun er341 0
      have ek343 : h330 35 1 = (h299 35 1) := congrFun er341 1
      have ek344 : h330 35 2 = (h299 35 2) := congrFun er341 2
      have ek345 : h330 35 3 = (h299 35 3) := congrFun er341 3
      have er346 : h330 70 = h299 70 := ov_ff_k I331k (Or.inr (by decide)) (by decide +kernel)
      have er347 : h330 71 = h299 71 := ov_ff_k I331k (Or.inr (by decide)) (by decide +kernel)
      have er348 : h330 72 = h299 72 := ov_ff_k I331k (Or.inr (by decide)) (by decide +kernel)
      have er349 : h330 73 = h299 73 := ov_ff_k I331k (Or.inr (by decide)) (by decide +kernel)
      have er350 : h330 74 = h299 74 := ov_ff_k I331k (Or.inr (by decide)) (by decide +kernel)
      have er351 : h330 75 = h299 75 := ov_ff_k I331k (Or.inr (by decide)) (by decide +kernel)
      have er352 : h330 76 = h299 76 := ov_ff_k I331k (Or.inr (by decide)) (by decide +kernel)
      have er353 : h330 77 = h299 77 := ov_ff_k I331k (Or.inr (by decide)) (by decide +kernel)
      have er354 : h330 82 = h299 82 := ov_ff_k I331k (Or.inr (by decide)) (by decide +kernel)
      have ek355 : h330 82 0 = (h299 82 0) := congrFun er354 0
      have ek356 : h330 82 1 = (h299 82 1) := congrFun er354 1
      have er357 : h330 86 = h299 86 := ov_ff_k I331k (Or.inr (by decide)) (by decide +kernel)
      have ek358 : h330 86 0 = (h299 86 0) := congrFun er357 0
      have ek359 : h330 86 1 = (h299 86 1) := congrFun er357 1
      show ov_R u d ov_m23 63 [(0, ov_r 0), (1, ov_i v2), (2, ov_r 58)] [] z329 h330 (P_OF_town_0_58 t m f0 F z h)
      have f360 : (h330 36 7) = 0 ∧ (h330 1 1) = (h299 1 1) ∧ (h330 90 2) = (h299 90 2) ∧ (h330 0 10) = (h299 0 10) ∧ (h330 0 11) = (h299 0 11) ∧ (h330 0 12) = (h299 0 12) ∧ (h330 0 13) = (h299 0 13) ∧ (h330 3 1) = (h299 3 1) ∧ (h330 36 8) = (h299 36 8) ∧ (h330 46 3) = (h299 46 3) ∧ (h330 46 4) = (h299 46 4) ∧ (h330 49 4) = (h299 49 4) ∧ (h330 49 5) = (h299 49 5) ∧ (h330 64 0) = (h299 64 0) ∧ (h330 76 0) = (h299 76 0) := f328
      clear f328
      have e361 : h330 0 10 = 70 := by omega
      have e362 : h330 0 11 = 58 := by omega
      have e363 : h330 0 12 = 86 := by omega
      refine ov_blk (ls2 := [(0, ov_r 0), (1, ov_i v2), (2, ov_r 58)]) (st2 := [ov_i v2]) (pc2 := 64) b_23_63_1 rfl rfl ?_
      have gf364 : 1 ≤ (h330 70 0) ∧ 1 ≤ (h330 70 1) := ov_I_fg (h := h330) (T := 70) (by omega) I331
      have gk : F (-5) 58 = 1 := by omega
      have gf365 : 1 ≤ (h330 58 0) ∧ 1 ≤ (h330 58 1) := ov_I_fk (h := h330) (S := 58) (by omega) I331 gk
      exact ov_reti (st := []) d_23_64 rfl ⟨_, rfl, (ov_I_fd I331), (by show (h330 1 1) = 0 ∧ ((h330 36 7) = 1 → (h330 36 8) = (h330 0 10)) ∧ ((h330 0 10) = 58 ∧ (h330 0 11) = 70 ∧ 0 ≤ (h330 64 0) ∧ 1 ≤ (h330 58 0) ∧ 1 ≤ (h330 58 1) ∨ (h330 0 10) = 70 ∧ (h330 0 11) = 58 ∧ 0 ≤ (h330 76 0) ∧ 1 ≤ (h330 70 0) ∧ 1 ≤ (h330 70 1)) ∧ v2 = f0 ∧ (h330 90 2) = (h 90 2) ∧ (h330 0 12) = (h 0 12) ∧ (h330 0 13) = (h 0 13) ∧ (h330 46 3) = (h 46 3) ∧ (h330 46 4) = (h 46 4) ∧ (h330 49 4) = (h 49 4) ∧ (h330 49 5) = (h 49 5); omega), (Or.inr ⟨by omega, by omega, (by obtain ⟨B, tw, tb⟩ := xt (by omega); exact ⟨B, tw, by rw [show h330 70 = h4 70 from (Eq.trans er346 (Eq.trans er310 (Eq.trans er279 (Eq.trans er245 er219)))), show h330 71 = h4 71 from (Eq.trans er347 (Eq.trans er311 (Eq.trans er280 (Eq.trans er246 er220)))), show h330 72 = h4 72 from (Eq.trans er348 (Eq.trans er312 (Eq.trans er281 (Eq.trans er247 er221)))), show h330 73 = h4 73 from (Eq.trans er349 (Eq.trans er313 (Eq.trans er282 (Eq.trans er248 er222)))), show h330 74 = h4 74 from (Eq.trans er350 (Eq.trans er314 (Eq.trans er283 (Eq.trans er249 er223)))), show h330 75 = h4 75 from (Eq.trans er351 (Eq.trans er315 (Eq.trans er284 (Eq.trans er250 er224)))), show h330 76 = h4 76 from (Eq.trans er352 (Eq.trans er316 (Eq.trans er285 (Eq.trans er251 er225)))), show h330 77 = h4 77 from (Eq.trans er353 (Eq.trans er317 (Eq.trans er286 (Eq.trans er252 er226))))]; exact tb⟩), by omega⟩)⟩

abbrev P_OF_town_0_70 (t : Int → Int) (m f0 : Int) (F : ov_H) (z : ov_Z) (h : ov_H)  : Option ov_V → ov_Z → ov_H → Prop := fun r0 z' h' => ∃ r : Int, r0 = some (ov_i r) ∧ ov_I F z' h' ∧ ((h' 1 1) = 0 ∧ ((h' 36 7) = 1 → (h' 36 8) = (h' 0 10)) ∧ ((h' 0 10) = 58 ∧ (h' 0 11) = 70 ∧ 0 ≤ (h' 64 0) ∧ 1 ≤ (h' 58 0) ∧ 1 ≤ (h' 58 1) ∨ (h' 0 10) = 70 ∧ (h' 0 11) = 58 ∧ 0 ≤ (h' 76 0) ∧ 1 ≤ (h' 70 0) ∧ 1 ≤ (h' 70 1)) ∧ r = f0 ∧ (h' 90 2) = (h 90 2) ∧ (h' 0 12) = (h 0 12) ∧ (h' 0 13) = (h 0 13) ∧ (h' 46 3) = (h 46 3) ∧ (h' 46 4) = (h 46 4) ∧ (h' 49 4) = (h 49 4) ∧ (h' 49 5) = (h 49 5)) ∧ ((¬ r = 0 ∧ ∀ b : Int, ov_kq b → Nat.testBit 1237939448989569984912949237 b.toNat = true → h' b = h b) ∨ (r = 0 ∧ h' 0 10 = 58 ∧ (∃ B : Int → Int, pt_ET t m 0 B ∧ tw_TB B (h' 58) (h' 59) (h' 60) (h' 61) (h' 62) (h' 63) (h' 64) (h' 65)) ∧ (h' 35 0) = 0 ∧ (h' 35 1) = 0 ∧ (h' 35 2) = 0 ∧ (h' 35 3) = 0 ∧ (h' 4 0) = 0 ∧ (h' 4 1) = 0 ∧ (h' 4 2) = 0 ∧ (h' 4 3) = 0 ∧ (h' 4 4) = 0 ∧ (h' 4 5) = 0 ∧ (h' 9 0) = 0 ∧ ((h' 0 12) = 82 ∧ (h' 82 0) = 0 ∧ (h' 82 1) = 0 ∨ (h' 0 12) = 86 ∧ (h' 86 0) = 0 ∧ (h' 86 1) = 0)))
set_option maxHeartbeats 4000000 in
theorem c_OF_town_0_70 {u : ov_U} {F : ov_H} (t : Int → Int) (m f0 : Int) (hf : ∀ (f : Int) (B : Int → Int), pt_ET t m f B → f = f0) {z : ov_Z} {h : ov_H} (d : Nat) (hd : 50 ≤ d) (U : ov_cap u) (I : ov_I F z h) (hw : ov_kw 82207545741374800793698843 F) (k0 : h 0 10 = 70) (k1 : h 0 11 = 58) (p0 : h 36 7 = 1 → h 36 8 = h 0 10) (p1 : 0 ≤ h 76 0) (p2 : F (-5) 70 = 1) (et : h 2 = t) (em : h 1 1 = m) : ov_T u d ov_m23 [ov_r 0] z h (P_OF_town_0_70 t m f0 F z h) := by
  refine ov_en rfl (Nat.le_of_ble_eq_true rfl) ?_
  show ov_R u d ov_m23 0 [(0, ov_r 0)] [] z h (P_OF_town_0_70 t m f0 F z h)
  refine ov_blk (ls2 := [(0, ov_r 0)]) (st2 := [ov_r 0]) (pc2 := 1) b_23_0_1 rfl rfl ?_
  refine ov_getf (v := ov_r 3) d_23_1 fl_OF_21 (zb_0 I) (zs_0 I) (congrArg ov_r (rg_0_1 I)) ?_
  refine ov_blk (ls2 := [(0, ov_r 0)]) (st2 := [ov_r 0, ov_r 3]) (pc2 := 5) b_23_4_1 rfl rfl ?_
  refine ov_getf (v := ov_r 58) d_23_5 fl_OF_82 (zb_0 I) (zs_0 I) (congrArg ov_r k1) ?_
  refine ov_cV (as := [ov_r 58]) (st := []) (d2 := d - 1) d_23_8 lk_OF_109 rfl (Nat.le_of_ble_eq_true rfl) (c := 6) (zb_3 I) (zs_3 I) ⟨by decide, rfl⟩ (by omega) (c_Reader_readTown_3_58_t t m f0 hf et em (d - 1) (by omega) U (ov_I_ff (M := 1237939448989569984912949237) I) (ov_kw_ff (ov_kws hw (by decide +kernel)) (by decide +kernel))) ?_
  rintro _ z3 h4 ⟨v2, rfl, I5, f1, xt⟩
  have I5k := I5
  have I5 := ov_I_fr I I5k
  have er6 : h4 4 = h 4 := ov_ff_k I5k (Or.inl (by decide)) (by decide +kernel)
  have ek7 : h4 4 0 = (h 4 0) := congrFun er6 0
  have ek8 : h4 4 1 = (h 4 1) := congrFun er6 1
  have ek9 : h4 4 2 = (h 4 2) := congrFun er6 2
  have ek10 : h4 4 3 = (h 4 3) := congrFun er6 3
  have ek11 : h4 4 4 = (h 4 4) := congrFun er6 4
  have ek12 : h4 4 5 = (h 4 5) := congrFun er6 5
  have er13 : h4 9 = h 9 := ov_ff_k I5k (Or.inl (by decide)) (by decide +kernel)
  have ek14 : h4 9 0 = (h 9 0) := congrFun er13 0
  have er15 : h4 35 = h 35 := ov_ff_k I5k (Or.inl (by decide)) (by decide +kernel)
  have ek16 : h4 35 0 = (h 35 0) := congrFun er15 0
  have ek17 : h4 35 1 = (h 35 1) := congrFun er15 1
  have ek18 : h4 35 2 = (h 35 2) := congrFun er15 2
  have ek19 : h4 35 3 = (h 35 3) := congrFun er15 3
  have er20 : h4 82 = h 82 := ov_ff_k I5k (Or.inr (by decide)) (by decide +kernel)
  have ek21 : h4 82 0 = (h 82 0) := congrFun er20 0
  have ek22 : h4 82 1 = (h 82 1) := congrFun er20 1
  have er23 : h4 86 = h 86 := ov_ff_k I5k (Or.inr (by decide)) (by decide +kernel)
  have ek24 : h4 86 0 = (h 86 0) := congrFun er23 0
  have ek25 : h4 86 1 = (h 86 1) := congrFun er23 1
  show ov_R u d ov_m23 11 [(0, ov_r 0)] [ov_i v2] z3 h4 (P_OF_town_0_70 t m f0 F z h)
  have f26 : (h4 1 1) = 0 ∧ -2147483648 ≤ v2 ∧ v2 ≤ 2147483647 ∧ (v2 = 0 → 0 ≤ (h4 64 0)) ∧ 1 ≤ (h4 58 0) ∧ 1 ≤ (h4 58 1) ∧ v2 = f0 ∧ (h4 36 7) = (h 36 7) ∧ (h4 90 2) = (h 90 2) ∧ (h4 0 10) = (h 0 10) ∧ (h4 0 11) = (h 0 11) ∧ (h4 0 12) = (h 0 12) ∧ (h4 0 13) = (h 0 13) ∧ (h4 36 8) = (h 36 8) ∧ (h4 46 3) = (h 46 3) ∧ (h4 46 4) = (h 46 4) ∧ (h4 49 4) = (h 49 4) ∧ (h4 49 5) = (h 49 5) ∧ (h4 76 0) = (h 76 0) := f1
  clear f1
  have e27 : h4 0 10 = 70 := by omega
  have e28 : h4 0 11 = 58 := by omega
  have I29 := ov_I_fu (T := 58) I5 (by omega)
  refine ov_blk (ls2 := [(0, ov_r 0), (1, ov_i v2)]) (st2 := [ov_i v2]) (pc2 := 13) b_23_11_2 rfl rfl ?_
  refine ov_ifne (tgt := 63) d_23_13 (by decide) (by omega) (fun c30 => ?_) (fun c30 => ?_)
  · skip
    refine ov_blk (ls2 := [(0, ov_r 0), (1, ov_i v2)]) (st2 := [ov_i v2]) (pc2 := 64) b_23_63_1 rfl rfl ?_
    have gf31 : 1 ≤ (h4 58 0) ∧ 1 ≤ (h4 58 1) := ov_I_fg (h := h4) (T := 58) (by omega) I29
    have gk : F (-5) 70 = 1 := by omega
    have gf32 : 1 ≤ (h4 70 0) ∧ 1 ≤ (h4 70 1) := ov_I_fk (h := h4) (S := 70) (by omega) I29 gk
    exact ov_reti (st := []) d_23_64 rfl ⟨_, rfl, (ov_I_fd I29), (by show (h4 1 1) = 0 ∧ ((h4 36 7) = 1 → (h4 36 8) = (h4 0 10)) ∧ ((h4 0 10) = 58 ∧ (h4 0 11) = 70 ∧ 0 ≤ (h4 64 0) ∧ 1 ≤ (h4 58 0) ∧ 1 ≤ (h4 58 1) ∨ (h4 0 10) = 70 ∧ (h4 0 11) = 58 ∧ 0 ≤ (h4 76 0) ∧ 1 ≤ (h4 70 0) ∧ 1 ≤ (h4 70 1)) ∧ v2 = f0 ∧ (h4 90 2) = (h 90 2) ∧ (h4 0 12) = (h 0 12) ∧ (h4 0 13) = (h 0 13) ∧ (h4 46 3) = (h 46 3) ∧ (h4 46 4) = (h 46 4) ∧ (h4 49 4) = (h 49 4) ∧ (h4 49 5) = (h 49 5); omega), (Or.inl ⟨by omega, fun b q e => ov_ff_k I5k q e⟩)⟩
  · skip
    refine ov_blk (ls2 := [(0, ov_r 0), (1, ov_i v2)]) (st2 := [ov_r 0]) (pc2 := 17) b_23_16_1 rfl rfl ?_
    refine ov_getf (v := ov_r 70) d_23_17 fl_OF_78 (zb_0 I29) (zs_0 I29) (congrArg ov_r e27) ?_
    refine ov_blk (ls2 := [(0, ov_r 0), (1, ov_i v2), (2, ov_r 70)]) (st2 := [ov_r 0, ov_r 0]) (pc2 := 23) b_23_20_3 rfl rfl ?_
    refine ov_getf (v := ov_r 58) d_23_23 fl_OF_82 (zb_0 I29) (zs_0 I29) (congrArg ov_r e28) ?_
    refine ov_putf (x := 58) d_23_26 fl_OF_78 (zb_0 I29) (zs_0 I29) rfl nk_2 rfl ?_
    have I33 := up_0_10 (x := 58) I29 (by omega) ((ov_kwu hw) 0 (by decide +kernel))
    refine ov_blk (ls2 := [(0, ov_r 0), (1, ov_i v2), (2, ov_r 70)]) (st2 := [ov_r 70, ov_r 0]) (pc2 := 31) b_23_29_2 rfl rfl ?_
    refine ov_putf (x := 70) d_23_31 fl_OF_82 (zb_0 I33) (zs_0 I33) rfl nk_2 rfl ?_
    have I34 := up_0_11 (x := 70) I33 (by omega) ((ov_kwu hw) 0 (by decide +kernel))
    refine ov_blk (ls2 := [(0, ov_r 0), (1, ov_i v2), (2, ov_r 70)]) (st2 := [ov_r 0]) (pc2 := 35) b_23_34_1 rfl rfl ?_
    rcases rg_0_12 I29 with e35 | e35
    · skip
      refine ov_getf (v := ov_r 82) d_23_35 fl_OF_88 (zb_0 I34) (zs_0 I34) (congrArg ov_r e35) ?_
      refine ov_cV (as := []) (st := []) (d2 := d - 1) d_23_38 lk_OF_113 rfl (Nat.le_of_ble_eq_true rfl) (c := 10) (zb_82 I34) (zs_82 I34) ⟨by decide, rfl⟩ (by omega) (c_Walk_clear_82_t (d - 1) (by omega) U (ov_I_ff (M := 77371325954082220227428880) I34) (ov_kw_ff (ov_kws (ov_kwu hw) (by decide +kernel)) (by decide +kernel))) ?_
      rintro _ z37 h38 ⟨rfl, I39, f36⟩
      have I39k := I39
      have I39 := ov_I_fr I34 I39k
      have er40 : h38 4 = (ov_up (ov_up h4 0 10 58) 0 11 70) 4 := ov_ff_k I39k (Or.inl (by decide)) (by decide +kernel)
      have ek41 : h38 4 0 = (h4 4 0) := congrFun er40 0
      have ek42 : h38 4 1 = (h4 4 1) := congrFun er40 1
      have ek43 : h38 4 2 = (h4 4 2) := congrFun er40 2
      have ek44 : h38 4 3 = (h4 4 3) := congrFun er40 3
      have ek45 : h38 4 4 = (h4 4 4) := congrFun er40 4
      have ek46 : h38 4 5 = (h4 4 5) := congrFun er40 5
      have er47 : h38 9 = (ov_up (ov_up h4 0 10 58) 0 11 70) 9 := ov_ff_k I39k (Or.inl (by decide)) (by decide +kernel)
      have ek48 : h38 9 0 = (h4 9 0) := congrFun er47 0
      have er49 : h38 35 = (ov_up (ov_up h4 0 10 58) 0 11 70) 35 := ov_ff_k I39k (Or.inl (by decide)) (by decide +kernel)
      have ek50 : h38 35 0 = (h4 35 0) := congrFun er49 0
      have ek51 : h38 35 1 = (h4 35 1) := congrFun er49 1
      have ek52 : h38 35 2 = (h4 35 2) := congrFun er49 2
      have ek53 : h38 35 3 = (h4 35 3) := congrFun er49 3
      have er54 : h38 58 = (ov_up (ov_up h4 0 10 58) 0 11 70) 58 := ov_ff_k I39k (Or.inr (by decide)) (by decide +kernel)
      have er55 : h38 59 = (ov_up (ov_up h4 0 10 58) 0 11 70) 59 := ov_ff_k I39k (Or.inr (by decide)) (by decide +kernel)
      have er56 : h38 60 = (ov_up (ov_up h4 0 10 58) 0 11 70) 60 := ov_ff_k I39k (Or.inr (by decide)) (by decide +kernel)
      have er57 : h38 61 = (ov_up (ov_up h4 0 10 58) 0 11 70) 61 := ov_ff_k I39k (Or.inr (by decide)) (by decide +kernel)
      have er58 : h38 62 = (ov_up (ov_up h4 0 10 58) 0 11 70) 62 := ov_ff_k I39k (Or.inr (by decide)) (by decide +kernel)
      have er59 : h38 63 = (ov_up (ov_up h4 0 10 58) 0 11 70) 63 := ov_ff_k I39k (Or.inr (by decide)) (by decide +kernel)
      have er60 : h38 64 = (ov_up (ov_up h4 0 10 58) 0 11 70) 64 := ov_ff_k I39k (Or.inr (by decide)) (by decide +kernel)
      have er61 : h38 65 = (ov_up (ov_up h4 0 10 58) 0 11 70) 65 := ov_ff_k I39k (Or.inr (by decide)) (by decide +kernel)
      have er62 : h38 86 = (ov_up (ov_up h4 0 10 58) 0 11 70) 86 := ov_ff_k I39k (Or.inr (by decide)) (by decide +kernel)
      have ek63 : h38 86 0 = (h4 86 0) := congrFun er62 0
      have ek64 : h38 86 1 = (h4 86 1) := congrFun er62 1
      show ov_R u d ov_m23 41 [(0, ov_r 0), (1, ov_i v2), (2, ov_r 70)] [] z37 h38 (P_OF_town_0_70 t m f0 F z h)
      have f65 : (h38 82 0) = 0 ∧ (h38 82 1) = 0 ∧ (h38 36 7) = (h4 36 7) ∧ (h38 1 1) = (h4 1 1) ∧ (h38 90 2) = (h4 90 2) ∧ (h38 0 10) = 58 ∧ (h38 0 11) = 70 ∧ (h38 0 12) = (h4 0 12) ∧ (h38 0 13) = (h4 0 13) ∧ (h38 3 1) = (h4 3 1) ∧ (h38 36 8) = (h4 36 8) ∧ (h38 46 3) = (h4 46 3) ∧ (h38 46 4) = (h4 46 4) ∧ (h38 49 4) = (h4 49 4) ∧ (h38 49 5) = (h4 49 5) ∧ (h38 64 0) = (h4 64 0) ∧ (h38 76 0) = (h4 76 0) := f36
      clear f36
      have e66 : h38 0 10 = 58 := by omega
      have e67 : h38 0 11 = 70 := by omega
      have e68 : h38 0 12 = 82 := by omega
      refine ov_blk (ls2 := [(0, ov_r 0), (1, ov_i v2), (2, ov_r 70)]) (st2 := [ov_r 0]) (pc2 := 42) b_23_41_1 rfl rfl ?_
      refine ov_getf (v := ov_r 4) d_23_42 fl_OF_28 (zb_0 I39) (zs_0 I39) (congrArg ov_r (rg_0_2 I39)) ?_
      refine ov_cV (as := []) (st := []) (d2 := d - 1) d_23_45 lk_OF_114 rfl (Nat.le_of_ble_eq_true rfl) (c := 7) (zb_4 I39) (zs_4 I39) ⟨by decide, rfl⟩ (by omega) (c_State_clear_4_t (d - 1) (by omega) U (ov_I_ff (M := 82207029232540736926253568) I39) (ov_kw_ff (ov_kws (ov_kwu hw) (by decide +kernel)) (by decide +kernel))) ?_
      rintro _ z70 h71 ⟨rfl, I72, f69⟩
      have I72k := I72
      have I72 := ov_I_fr I39 I72k
      have er73 : h71 9 = h38 9 := ov_ff_k I72k (Or.inl (by decide)) (by decide +kernel)
      have ek74 : h71 9 0 = (h38 9 0) := congrFun er73 0
      have er75 : h71 35 = h38 35 := ov_ff_k I72k (Or.inl (by decide)) (by decide +kernel)
      have ek76 : h71 35 0 = (h38 35 0) := congrFun er75 0
      have ek77 : h71 35 1 = (h38 35 1) := congrFun er75 1
      have ek78 : h71 35 2 = (h38 35 2) := congrFun er75 2
      have ek79 : h71 35 3 = (h38 35 3) := congrFun er75 3
      have er80 : h71 58 = h38 58 := ov_ff_k I72k (Or.inr (by decide)) (by decide +kernel)
      have er81 : h71 59 = h38 59 := ov_ff_k I72k (Or.inr (by decide)) (by decide +kernel)
      have er82 : h71 60 = h38 60 := ov_ff_k I72k (Or.inr (by decide)) (by decide +kernel)
      have er83 : h71 61 = h38 61 := ov_ff_k I72k (Or.inr (by decide)) (by decide +kernel)
      have er84 : h71 62 = h38 62 := ov_ff_k I72k (Or.inr (by decide)) (by decide +kernel)
      have er85 : h71 63 = h38 63 := ov_ff_k I72k (Or.inr (by decide)) (by decide +kernel)
      have er86 : h71 64 = h38 64 := ov_ff_k I72k (Or.inr (by decide)) (by decide +kernel)
      have er87 : h71 65 = h38 65 := ov_ff_k I72k (Or.inr (by decide)) (by decide +kernel)
      have er88 : h71 82 = h38 82 := ov_ff_k I72k (Or.inr (by decide)) (by decide +kernel)
      have ek89 : h71 82 0 = (h38 82 0) := congrFun er88 0
      have ek90 : h71 82 1 = (h38 82 1) := congrFun er88 1
      have er91 : h71 86 = h38 86 := ov_ff_k I72k (Or.inr (by decide)) (by decide +kernel)
      have ek92 : h71 86 0 = (h38 86 0) := congrFun er91 0
      have ek93 : h71 86 1 = (h38 86 1) := congrFun er91 1
      show ov_R u d ov_m23 48 [(0, ov_r 0), (1, ov_i v2), (2, ov_r 70)] [] z70 h71 (P_OF_town_0_70 t m f0 F z h)
      have f94 : (h71 4 0) = 0 ∧ (h71 4 1) = 0 ∧ (h71 4 2) = 0 ∧ (h71 4 3) = 0 ∧ (h71 4 4) = 0 ∧ (h71 4 5) = 0 ∧ (h71 36 7) = (h38 36 7) ∧ (h71 1 1) = (h38 1 1) ∧ (h71 90 2) = (h38 90 2) ∧ (h71 0 10) = (h38 0 10) ∧ (h71 0 11) = (h38 0 11) ∧ (h71 0 12) = (h38 0 12) ∧ (h71 0 13) = (h38 0 13) ∧ (h71 3 1) = (h38 3 1) ∧ (h71 36 8) = (h38 36 8) ∧ (h71 46 3) = (h38 46 3) ∧ (h71 46 4) = (h38 46 4) ∧ (h71 49 4) = (h38 49 4) ∧ (h71 49 5) = (h38 49 5) ∧ (h71 64 0) = (h38 64 0) ∧ (h71 76 0) = (h38 76 0) := f69
      clear f69
      have e95 : h71 0 10 = 58 := by omega
      have e96 : h71 0 11 = 70 := by omega
      have e97 : h71 0 12 = 82 := by omega
      refine ov_blk (ls2 := [(0, ov_r 0), (1, ov_i v2), (2, ov_r 70)]) (st2 := [ov_r 0]) (pc2 := 49) b_23_48_1 rfl rfl ?_
      refine ov_getf (v := ov_r 9) d_23_49 fl_OF_35 (zb_0 I72) (zs_0 I72) (congrArg ov_r (rg_0_3 I72)) ?_
      refine ov_cV (as := []) (st := []) (d2 := d - 1) d_23_52 lk_OF_115 rfl (Nat.le_of_ble_eq_true rfl) (c := 3) (zb_9 I72) (zs_9 I72) ⟨by decide, rfl⟩ (by omega) (c_History_clear_9_t (d - 1) (by omega) U (ov_I_ff (M := 82207029232540736926253072) I72) (ov_kw_ff (ov_kws (ov_kwu hw) (by decide +kernel)) (by decide +kernel))) ?_
      rintro _ z99 h100 ⟨rfl, I101, f98⟩
      have I101k := I101
      have I101 := ov_I_fr I72 I101k
      have er102 : h100 4 = h71 4 := ov_ff_k I101k (Or.inl (by decide)) (by decide +kernel)
      have ek103 : h100 4 0 = (h71 4 0) := congrFun er102 0
      have ek104 : h100 4 1 = (h71 4 1) := congrFun er102 1
      have ek105 : h100 4 2 = (h71 4 2) := congrFun er102 2
      have ek106 : h100 4 3 = (h71 4 3) := congrFun er102 3
      have ek107 : h100 4 4 = (h71 4 4) := congrFun er102 4
      have ek108 : h100 4 5 = (h71 4 5) := congrFun er102 5
      have er109 : h100 35 = h71 35 := ov_ff_k I101k (Or.inl (by decide)) (by decide +kernel)
      have ek110 : h100 35 0 = (h71 35 0) := congrFun er109 0
      have ek111 : h100 35 1 = (h71 35 1) := congrFun er109 1
      have ek112 : h100 35 2 = (h71 35 2) := congrFun er109 2
      have ek113 : h100 35 3 = (h71 35 3) := congrFun er109 3
      have er114 : h100 58 = h71 58 := ov_ff_k I101k (Or.inr (by decide)) (by decide +kernel)
      have er115 : h100 59 = h71 59 := ov_ff_k I101k (Or.inr (by decide)) (by decide +kernel)
      have er116 : h100 60 = h71 60 := ov_ff_k I101k (Or.inr (by decide)) (by decide +kernel)
      have er117 : h100 61 = h71 61 := ov_ff_k I101k (Or.inr (by decide)) (by decide +kernel)
      have er118 : h100 62 = h71 62 := ov_ff_k I101k (Or.inr (by decide)) (by decide +kernel)
      have er119 : h100 63 = h71 63 := ov_ff_k I101k (Or.inr (by decide)) (by decide +kernel)
      have er120 : h100 64 = h71 64 := ov_ff_k I101k (Or.inr (by decide)) (by decide +kernel)
      have er121 : h100 65 = h71 65 := ov_ff_k I101k (Or.inr (by decide)) (by decide +kernel)
      have er122 : h100 82 = h71 82 := ov_ff_k I101k (Or.inr (by decide)) (by decide +kernel)
      have ek123 : h100 82 0 = (h71 82 0) := congrFun er122 0
      have ek124 : h100 82 1 = (h71 82 1) := congrFun er122 1
      have er125 : h100 86 = h71 86 := ov_ff_k I101k (Or.inr (by decide)) (by decide +kernel)
      have ek126 : h100 86 0 = (h71 86 0) := congrFun er125 0
      have ek127 : h100 86 1 = (h71 86 1) := congrFun er125 1
      show ov_R u d ov_m23 55 [(0, ov_r 0), (1, ov_i v2), (2, ov_r 70)] [] z99 h100 (P_OF_town_0_70 t m f0 F z h)
      have f128 : (h100 9 0) = 0 ∧ (h100 36 7) = (h71 36 7) ∧ (h100 1 1) = (h71 1 1) ∧ (h100 90 2) = (h71 90 2) ∧ (h100 0 10) = (h71 0 10) ∧ (h100 0 11) = (h71 0 11) ∧ (h100 0 12) = (h71 0 12) ∧ (h100 0 13) = (h71 0 13) ∧ (h100 3 1) = (h71 3 1) ∧ (h100 36 8) = (h71 36 8) ∧ (h100 46 3) = (h71 46 3) ∧ (h100 46 4) = (h71 46 4) ∧ (h100 49 4) = (h71 49 4) ∧ (h100 49 5) = (h71 49 5) ∧ (h100 64 0) = (h71 64 0) ∧ (h100 76 0) = (h71 76 0) := f98
      clear f98
      have e129 : h100 0 10 = 58 := by omega
      have e130 : h100 0 11 = 70 := by omega
      have e131 : h100 0 12 = 82 := by omega
      refine ov_blk (ls2 := [(0, ov_r 0), (1, ov_i v2), (2, ov_r 70)]) (st2 := [ov_r 0]) (pc2 := 56) b_23_55_1 rfl rfl ?_
      refine ov_cV (as := []) (st := []) (d2 := d - 1) d_23_56 lk_OF_116 rfl (Nat.le_of_ble_eq_true rfl) (c := 0) (zb_0 I101) (zs_0 I101) ⟨by decide, rfl⟩ (by omega) (c_OF_forgetMarks_0_m (d - 1) (by omega) U (ov_I_ff (M := 82207029232540702566515216) I101) (ov_kw_ff (ov_kws (ov_kwu hw) (by decide +kernel)) (by decide +kernel))) ?_
      rintro _ z133 h134 ⟨rfl, I135, f132⟩
      have I135k := I135
      have I135 := ov_I_fr I101 I135k
      have er136 : h134 4 = h100 4 := ov_ff_k I135k (Or.inl (by decide)) (by decide +kernel)
      have ek137 : h134 4 0 = (h100 4 0) := congrFun er136 0
      have ek138 : h134 4 1 = (h100 4 1) := congrFun er136 1
      have ek139 : h134 4 2 = (h100 4 2) := congrFun er136 2
      have ek140 : h134 4 3 = (h100 4 3) := congrFun er136 3
      have ek141 : h134 4 4 = (h100 4 4) := congrFun er136 4
      have ek142 : h134 4 5 = (h100 4 5) := congrFun er136 5
      have er143 : h134 9 = h100 9 := ov_ff_k I135k (Or.inl (by decide)) (by decide +kernel)
      have ek144 : h134 9 0 = (h100 9 0) := congrFun er143 0
      have er145 : h134 58 = h100 58 := ov_ff_k I135k (Or.inr (by decide)) (by decide +kernel)
      have er146 : h134 59 = h100 59 := ov_ff_k I135k (Or.inr (by decide)) (by decide +kernel)
      have er147 : h134 60 = h100 60 := ov_ff_k I135k (Or.inr (by decide)) (by decide +kernel)
      have er148 : h134 61 = h100 61 := ov_ff_k I135k (Or.inr (by decide)) (by decide +kernel)
      have er149 : h134 62 = h100 62 := ov_ff_k I135k (Or.inr (by decide)) (by decide +kernel)
      have er150 : h134 63 = h100 63 := ov_ff_k I135k (Or.inr (by decide)) (by decide +kernel)
      have er151 : h134 64 = h100 64 := ov_ff_k I135k (Or.inr (by decide)) (by decide +kernel)
      have er152 : h134 65 = h100 65 := ov_ff_k I135k (Or.inr (by decide)) (by decide +kernel)
      have er153 : h134 82 = h100 82 := ov_ff_k I135k (Or.inr (by decide)) (by decide +kernel)
      have ek154 : h134 82 0 = (h100 82 0) := congrFun er153 0
      have ek155 : h134 82 1 = (h100 82 1) := congrFun er153 1
      have er156 : h134 86 = h100 86 := ov_ff_k I135k (Or.inr (by decide)) (by decide +kernel)
      have ek157 : h134 86 0 = (h100 86 0) := congrFun er156 0
      have ek158 : h134 86 1 = (h100 86 1) := congrFun er156 1
      show ov_R u d ov_m23 59 [(0, ov_r 0), (1, ov_i v2), (2, ov_r 70)] [] z133 h134 (P_OF_town_0_70 t m f0 F z h)
      have f159 : (h134 35 0) = 0 ∧ (h134 35 1) = 0 ∧ (h134 35 2) = 0 ∧ (h134 35 3) = 0 ∧ (h134 36 7) = (h100 36 7) ∧ (h134 1 1) = (h100 1 1) ∧ (h134 90 2) = (h100 90 2) ∧ (h134 0 10) = (h100 0 10) ∧ (h134 0 11) = (h100 0 11) ∧ (h134 0 12) = (h100 0 12) ∧ (h134 0 13) = (h100 0 13) ∧ (h134 3 1) = (h100 3 1) ∧ (h134 36 8) = (h100 36 8) ∧ (h134 46 3) = (h100 46 3) ∧ (h134 46 4) = (h100 46 4) ∧ (h134 49 4) = (h100 49 4) ∧ (h134 49 5) = (h100 49 5) ∧ (h134 64 0) = (h100 64 0) ∧ (h134 76 0) = (h100 76 0) := f132
      clear f132
      have e160 : h134 0 10 = 58 := by omega
      have e161 : h134 0 11 = 70 := by omega
      have e162 : h134 0 12 = 82 := by omega
      refine ov_blk (ls2 := [(0, ov_r 0), (1, ov_i v2), (2, ov_r 70)]) (st2 := [ov_r 0]) (pc2 := 60) b_23_59_1 rfl rfl ?_
      refine ov_cV (as := []) (st := []) (d2 := d - 1) d_23_60 lk_OF_119 rfl (Nat.le_of_ble_eq_true rfl) (c := 0) (zb_0 I135) (zs_0 I135) ⟨by decide, rfl⟩ (by omega) (c_OF_forgetReckonings_0 (d - 1) (by omega) U (ov_I_ff (M := 82207029232540736926253584) I135)) ?_
      rintro _ z164 h165 ⟨rfl, I166, f163⟩
      have I166k := I166
      have I166 := ov_I_fr I135 I166k
      have er167 : h165 4 = h134 4 := ov_ff_k I166k (Or.inl (by decide)) (by decide +kernel)
      have ek168 : h165 4 0 = (h134 4 0) := congrFun er167 0
      have ek169 : h165 4 1 = (h134 4 1) := congrFun er167 1
      have ek170 : h165 4 2 = (h134 4 2) := congrFun er167 2
      have ek171 : h165 4 3 = (h134 4 3) := congrFun er167 3
      have ek172 : h165 4 4 = (h134 4 4) := congrFun er167 4
      have ek173 : h165 4 5 = (h134 4 5) := congrFun er167 5
      have er174 : h165 9 = h134 9 := ov_ff_k I166k (Or.inl (by decide)) (by decide +kernel)
      have ek175 : h165 9 0 = (h134 9 0) := congrFun er174 0
      have er176 : h165 35 = h134 35 := ov_ff_k I166k (Or.inl (by decide)) (by decide +kernel)
      have ek177 : h165 35 0 = (h134 35 0) := congrFun er176 0
      have ek178 : h165 35 1 = (h134 35 1) := congrFun er176 1
      have ek179 : h165 35 2 = (h134 35 2) := congrFun er176 2
      have ek180 : h165 35 3 = (h134 35 3) := congrFun er176 3
      have er181 : h165 58 = h134 58 := ov_ff_k I166k (Or.inr (by decide)) (by decide +kernel)
      have er182 : h165 59 = h134 59 := ov_ff_k I166k (Or.inr (by decide)) (by decide +kernel)
      have er183 : h165 60 = h134 60 := ov_ff_k I166k (Or.inr (by decide)) (by decide +kernel)
      have er184 : h165 61 = h134 61 := ov_ff_k I166k (Or.inr (by decide)) (by decide +kernel)
      have er185 : h165 62 = h134 62 := ov_ff_k I166k (Or.inr (by decide)) (by decide +kernel)
      have er186 : h165 63 = h134 63 := ov_ff_k I166k (Or.inr (by decide)) (by decide +kernel)
      have er187 : h165 64 = h134 64 := ov_ff_k I166k (Or.inr (by decide)) (by decide +kernel)
      have er188 : h165 65 = h134 65 := ov_ff_k I166k (Or.inr (by decide)) (by decide +kernel)
      have er189 : h165 82 = h134 82 := ov_ff_k I166k (Or.inr (by decide)) (by decide +kernel)
      have ek190 : h165 82 0 = (h134 82 0) := congrFun er189 0
      have ek191 : h165 82 1 = (h134 82 1) := congrFun er189 1
      have er192 : h165 86 = h134 86 := ov_ff_k I166k (Or.inr (by decide)) (by decide +kernel)
      have ek193 : h165 86 0 = (h134 86 0) := congrFun er192 0
      have ek194 : h165 86 1 = (h134 86 1) := congrFun er192 1
      show ov_R u d ov_m23 63 [(0, ov_r 0), (1, ov_i v2), (2, ov_r 70)] [] z164 h165 (P_OF_town_0_70 t m f0 F z h)
      have f195 : (h165 36 7) = 0 ∧ (h165 1 1) = (h134 1 1) ∧ (h165 90 2) = (h134 90 2) ∧ (h165 0 10) = (h134 0 10) ∧ (h165 0 11) = (h134 0 11) ∧ (h165 0 12) = (h134 0 12) ∧ (h165 0 13) = (h134 0 13) ∧ (h165 3 1) = (h134 3 1) ∧ (h165 36 8) = (h134 36 8) ∧ (h165 46 3) = (h134 46 3) ∧ (h165 46 4) = (h134 46 4) ∧ (h165 49 4) = (h134 49 4) ∧ (h165 49 5) = (h134 49 5) ∧ (h165 64 0) = (h134 64 0) ∧ (h165 76 0) = (h134 76 0) := f163
      clear f163
      have e196 : h165 0 10 = 58 := by omega
      have e197 : h165 0 11 = 70 := by omega
      have e198 : h165 0 12 = 82 := by omega
      refine ov_blk (ls2 := [(0, ov_r 0), (1, ov_i v2), (2, ov_r 70)]) (st2 := [ov_i v2]) (pc2 := 64) b_23_63_1 rfl rfl ?_
      have gf199 : 1 ≤ (h165 58 0) ∧ 1 ≤ (h165 58 1) := ov_I_fg (h := h165) (T := 58) (by omega) I166
      have gk : F (-5) 70 = 1 := by omega
      have gf200 : 1 ≤ (h165 70 0) ∧ 1 ≤ (h165 70 1) := ov_I_fk (h := h165) (S := 70) (by omega) I166 gk
      exact ov_reti (st := []) d_23_64 rfl ⟨_, rfl, (ov_I_fd I166), (by show (h165 1 1) = 0 ∧ ((h165 36 7) = 1 → (h165 36 8) = (h165 0 10)) ∧ ((h165 0 10) = 58 ∧ (h165 0 11) = 70 ∧ 0 ≤ (h165 64 0) ∧ 1 ≤ (h165 58 0) ∧ 1 ≤ (h165 58 1) ∨ (h165 0 10) = 70 ∧ (h165 0 11) = 58 ∧ 0 ≤ (h165 76 0) ∧ 1 ≤ (h165 70 0) ∧ 1 ≤ (h165 70 1)) ∧ v2 = f0 ∧ (h165 90 2) = (h 90 2) ∧ (h165 0 12) = (h 0 12) ∧ (h165 0 13) = (h 0 13) ∧ (h165 46 3) = (h 46 3) ∧ (h165 46 4) = (h 46 4) ∧ (h165 49 4) = (h 49 4) ∧ (h165 49 5) = (h 49 5); omega), (Or.inr ⟨by omega, by omega, (by obtain ⟨B, tw, tb⟩ := xt (by omega); exact ⟨B, tw, by rw [show h165 58 = h4 58 from (Eq.trans er181 (Eq.trans er145 (Eq.trans er114 (Eq.trans er80 er54)))), show h165 59 = h4 59 from (Eq.trans er182 (Eq.trans er146 (Eq.trans er115 (Eq.trans er81 er55)))), show h165 60 = h4 60 from (Eq.trans er183 (Eq.trans er147 (Eq.trans er116 (Eq.trans er82 er56)))), show h165 61 = h4 61 from (Eq.trans er184 (Eq.trans er148 (Eq.trans er117 (Eq.trans er83 er57)))), show h165 62 = h4 62 from (Eq.trans er185 (Eq.trans er149 (Eq.trans er118 (Eq.trans er84 er58)))), show h165 63 = h4 63 from (Eq.trans er186 (Eq.trans er150 (Eq.trans er119 (Eq.trans er85 er59)))), show h165 64 = h4 64 from (Eq.trans er187 (Eq.trans er151 (Eq.trans er120 (Eq.trans er86 er60)))), show h165 65 = h4 65 from (Eq.trans er188 (Eq.trans er152 (Eq.trans er121 (Eq.trans er87 er61))))]; exact tb⟩), by omega⟩)⟩
    · skip
      refine ov_getf (v := ov_r 86) d_23_35 fl_OF_88 (zb_0 I34) (zs_0 I34) (congrArg ov_r e35) ?_
      refine ov_cV (as := []) (st := []) (d2 := d - 1) d_23_38 lk_OF_113 rfl (Nat.le_of_ble_eq_true rfl) (c := 10) (zb_86 I34) (zs_86 I34) ⟨by decide, rfl⟩ (by omega) (c_Walk_clear_86_t (d - 1) (by omega) U (ov_I_ff (M := 4835776777204469745058320) I34) (ov_kw_ff (ov_kws (ov_kwu hw) (by decide +kernel)) (by decide +kernel))) ?_
      rintro _ z202 h203 ⟨rfl, I204, f201⟩
      have I204k := I204
      have I204 := ov_I_fr I34 I204k
      have er205 : h203 4 = (ov_up (ov_up h4 0 10 58) 0 11 70) 4 := ov_ff_k I204k (Or.inl (by decide)) (by decide +kernel)
      have ek206 : h203 4 0 = (h4 4 0) := congrFun er205 0
      have ek207 : h203 4 1 = (h4 4 1) := congrFun er205 1
      have ek208 : h203 4 2 = (h4 4 2) := congrFun er205 2
      have ek209 : h203 4 3 = (h4 4 3) := congrFun er205 3
      have ek210 : h203 4 4 = (h4 4 4) := congrFun er205 4
      have ek211 : h203 4 5 = (h4 4 5) := congrFun er205 5
      have er212 : h203 9 = (ov_up (ov_up h4 0 10 58) 0 11 70) 9 := ov_ff_k I204k (Or.inl (by decide)) (by decide +kernel)
      have ek213 : h203 9 0 = (h4 9 0) := congrFun er212 0
      have er214 : h203 35 = (ov_up (ov_up h4 0 10 58) 0 11 70) 35 := ov_ff_k I204k (Or.inl (by decide)) (by decide +kernel)
      have ek215 : h203 35 0 = (h4 35 0) := congrFun er214 0
      have ek216 : h203 35 1 = (h4 35 1) := congrFun er214 1
      have ek217 : h203 35 2 = (h4 35 2) := congrFun er214 2
      have ek218 : h203 35 3 = (h4 35 3) := congrFun er214 3
      have er219 : h203 58 = (ov_up (ov_up h4 0 10 58) 0 11 70) 58 := ov_ff_k I204k (Or.inr (by decide)) (by decide +kernel)
      have er220 : h203 59 = (ov_up (ov_up h4 0 10 58) 0 11 70) 59 := ov_ff_k I204k (Or.inr (by decide)) (by decide +kernel)
      have er221 : h203 60 = (ov_up (ov_up h4 0 10 58) 0 11 70) 60 := ov_ff_k I204k (Or.inr (by decide)) (by decide +kernel)
      have er222 : h203 61 = (ov_up (ov_up h4 0 10 58) 0 11 70) 61 := ov_ff_k I204k (Or.inr (by decide)) (by decide +kernel)
      have er223 : h203 62 = (ov_up (ov_up h4 0 10 58) 0 11 70) 62 := ov_ff_k I204k (Or.inr (by decide)) (by decide +kernel)
      have er224 : h203 63 = (ov_up (ov_up h4 0 10 58) 0 11 70) 63 := ov_ff_k I204k (Or.inr (by decide)) (by decide +kernel)
      have er225 : h203 64 = (ov_up (ov_up h4 0 10 58) 0 11 70) 64 := ov_ff_k I204k (Or.inr (by decide)) (by decide +kernel)
      have er226 : h203 65 = (ov_up (ov_up h4 0 10 58) 0 11 70) 65 := ov_ff_k I204k (Or.inr (by decide)) (by decide +kernel)
      have er227 : h203 82 = (ov_up (ov_up h4 0 10 58) 0 11 70) 82 := ov_ff_k I204k (Or.inr (by decide)) (by decide +kernel)
      have ek228 : h203 82 0 = (h4 82 0) := congrFun er227 0
      have ek229 : h203 82 1 = (h4 82 1) := congrFun er227 1
      show ov_R u d ov_m23 41 [(0, ov_r 0), (1, ov_i v2), (2, ov_r 70)] [] z202 h203 (P_OF_town_0_70 t m f0 F z h)
      have f230 : (h203 86 0) = 0 ∧ (h203 86 1) = 0 ∧ (h203 36 7) = (h4 36 7) ∧ (h203 1 1) = (h4 1 1) ∧ (h203 90 2) = (h4 90 2) ∧ (h203 0 10) = 58 ∧ (h203 0 11) = 70 ∧ (h203 0 12) = (h4 0 12) ∧ (h203 0 13) = (h4 0 13) ∧ (h203 3 1) = (h4 3 1) ∧ (h203 36 8) = (h4 36 8) ∧ (h203 46 3) = (h4 46 3) ∧ (h203 46 4) = (h4 46 4) ∧ (h203 49 4) = (h4 49 4) ∧ (h203 49 5) = (h4 49 5) ∧ (h203 64 0) = (h4 64 0) ∧ (h203 76 0) = (h4 76 0) := f201
      clear f201
      have e231 : h203 0 10 = 58 := by omega
      have e232 : h203 0 11 = 70 := by omega
      have e233 : h203 0 12 = 86 := by omega
      refine ov_blk (ls2 := [(0, ov_r 0), (1, ov_i v2), (2, ov_r 70)]) (st2 := [ov_r 0]) (pc2 := 42) b_23_41_1 rfl rfl ?_
      refine ov_getf (v := ov_r 4) d_23_42 fl_OF_28 (zb_0 I204) (zs_0 I204) (congrArg ov_r (rg_0_2 I204)) ?_
      refine ov_cV (as := []) (st := []) (d2 := d - 1) d_23_45 lk_OF_114 rfl (Nat.le_of_ble_eq_true rfl) (c := 7) (zb_4 I204) (zs_4 I204) ⟨by decide, rfl⟩ (by omega) (c_State_clear_4_t (d - 1) (by omega) U (ov_I_ff (M := 82207029232540736926253568) I204) (ov_kw_ff (ov_kws (ov_kwu hw) (by decide +kernel)) (by decide +kernel))) ?_
      rintro _ z235 h236 ⟨rfl, I237, f234⟩
      have I237k := I237
      have I237 := ov_I_fr I204 I237k
      have er238 : h236 9 = h203 9 := ov_ff_k I237k (Or.inl (by decide)) (by decide +kernel)
      have ek239 : h236 9 0 = (h203 9 0) := congrFun er238 0
      have er240 : h236 35 = h203 35 := ov_ff_k I237k (Or.inl (by decide)) (by decide +kernel)
      have ek241 : h236 35 0 = (h203 35 0) := congrFun er240 0
      have ek242 : h236 35 1 = (h203 35 1) := congrFun er240 1
      have ek243 : h236 35 2 = (h203 35 2) := congrFun er240 2
      have ek244 : h236 35 3 = (h203 35 3) := congrFun er240 3
      have er245 : h236 58 = h203 58 := ov_ff_k I237k (Or.inr (by decide)) (by decide +kernel)
      have er246 : h236 59 = h203 59 := ov_ff_k I237k (Or.inr (by decide)) (by decide +kernel)
      have er247 : h236 60 = h203 60 := ov_ff_k I237k (Or.inr (by decide)) (by decide +kernel)
      have er248 : h236 61 = h203 61 := ov_ff_k I237k (Or.inr (by decide)) (by decide +kernel)
      have er249 : h236 62 = h203 62 := ov_ff_k I237k (Or.inr (by decide)) (by decide +kernel)
      have er250 : h236 63 = h203 63 := ov_ff_k I237k (Or.inr (by decide)) (by decide +kernel)
      have er251 : h236 64 = h203 64 := ov_ff_k I237k (Or.inr (by decide)) (by decide +kernel)
      have er252 : h236 65 = h203 65 := ov_ff_k I237k (Or.inr (by decide)) (by decide +kernel)
      have er253 : h236 82 = h203 82 := ov_ff_k I237k (Or.inr (by decide)) (by decide +kernel)
      have ek254 : h236 82 0 = (h203 82 0) := congrFun er253 0
      have ek255 : h236 82 1 = (h203 82 1) := congrFun er253 1
      have er256 : h236 86 = h203 86 := ov_ff_k I237k (Or.inr (by decide)) (by decide +kernel)
      have ek257 : h236 86 0 = (h203 86 0) := congrFun er256 0
      have ek258 : h236 86 1 = (h203 86 1) := congrFun er256 1
      show ov_R u d ov_m23 48 [(0, ov_r 0), (1, ov_i v2), (2, ov_r 70)] [] z235 h236 (P_OF_town_0_70 t m f0 F z h)
      have f259 : (h236 4 0) = 0 ∧ (h236 4 1) = 0 ∧ (h236 4 2) = 0 ∧ (h236 4 3) = 0 ∧ (h236 4 4) = 0 ∧ (h236 4 5) = 0 ∧ (h236 36 7) = (h203 36 7) ∧ (h236 1 1) = (h203 1 1) ∧ (h236 90 2) = (h203 90 2) ∧ (h236 0 10) = (h203 0 10) ∧ (h236 0 11) = (h203 0 11) ∧ (h236 0 12) = (h203 0 12) ∧ (h236 0 13) = (h203 0 13) ∧ (h236 3 1) = (h203 3 1) ∧ (h236 36 8) = (h203 36 8) ∧ (h236 46 3) = (h203 46 3) ∧ (h236 46 4) = (h203 46 4) ∧ (h236 49 4) = (h203 49 4) ∧ (h236 49 5) = (h203 49 5) ∧ (h236 64 0) = (h203 64 0) ∧ (h236 76 0) = (h203 76 0) := f234
      clear f234
      have e260 : h236 0 10 = 58 := by omega
      have e261 : h236 0 11 = 70 := by omega
      have e262 : h236 0 12 = 86 := by omega
      refine ov_blk (ls2 := [(0, ov_r 0), (1, ov_i v2), (2, ov_r 70)]) (st2 := [ov_r 0]) (pc2 := 49) b_23_48_1 rfl rfl ?_
      refine ov_getf (v := ov_r 9) d_23_49 fl_OF_35 (zb_0 I237) (zs_0 I237) (congrArg ov_r (rg_0_3 I237)) ?_
      refine ov_cV (as := []) (st := []) (d2 := d - 1) d_23_52 lk_OF_115 rfl (Nat.le_of_ble_eq_true rfl) (c := 3) (zb_9 I237) (zs_9 I237) ⟨by decide, rfl⟩ (by omega) (c_History_clear_9_t (d - 1) (by omega) U (ov_I_ff (M := 82207029232540736926253072) I237) (ov_kw_ff (ov_kws (ov_kwu hw) (by decide +kernel)) (by decide +kernel))) ?_
      rintro _ z264 h265 ⟨rfl, I266, f263⟩
      have I266k := I266
      have I266 := ov_I_fr I237 I266k
      have er267 : h265 4 = h236 4 := ov_ff_k I266k (Or.inl (by decide)) (by decide +kernel)
      have ek268 : h265 4 0 = (h236 4 0) := congrFun er267 0
      have ek269 : h265 4 1 = (h236 4 1) := congrFun er267 1
      have ek270 : h265 4 2 = (h236 4 2) := congrFun er267 2
      have ek271 : h265 4 3 = (h236 4 3) := congrFun er267 3
      have ek272 : h265 4 4 = (h236 4 4) := congrFun er267 4
      have ek273 : h265 4 5 = (h236 4 5) := congrFun er267 5
      have er274 : h265 35 = h236 35 := ov_ff_k I266k (Or.inl (by decide)) (by decide +kernel)
      have ek275 : h265 35 0 = (h236 35 0) := congrFun er274 0
      have ek276 : h265 35 1 = (h236 35 1) := congrFun er274 1
      have ek277 : h265 35 2 = (h236 35 2) := congrFun er274 2
      have ek278 : h265 35 3 = (h236 35 3) := congrFun er274 3
      have er279 : h265 58 = h236 58 := ov_ff_k I266k (Or.inr (by decide)) (by decide +kernel)
      have er280 : h265 59 = h236 59 := ov_ff_k I266k (Or.inr (by decide)) (by decide +kernel)
      have er281 : h265 60 = h236 60 := ov_ff_k I266k (Or.inr (by decide)) (by decide +kernel)
      have er282 : h265 61 = h236 61 := ov_ff_k I266k (Or.inr (by decide)) (by decide +kernel)
      have er283 : h265 62 = h236 62 := ov_ff_k I266k (Or.inr (by decide)) (by decide +kernel)
      have er284 : h265 63 = h236 63 := ov_ff_k I266k (Or.inr (by decide)) (by decide +kernel)
      have er285 : h265 64 = h236 64 := ov_ff_k I266k (Or.inr (by decide)) (by decide +kernel)
      have er286 : h265 65 = h236 65 := ov_ff_k I266k (Or.inr (by decide)) (by decide +kernel)
      have er287 : h265 82 = h236 82 := ov_ff_k I266k (Or.inr (by decide)) (by decide +kernel)
      have ek288 : h265 82 0 = (h236 82 0) := congrFun er287 0
      have ek289 : h265 82 1 = (h236 82 1) := congrFun er287 1
      have er290 : h265 86 = h236 86 := ov_ff_k I266k (Or.inr (by decide)) (by decide +kernel)
      have ek291 : h265 86 0 = (h236 86 0) := congrFun er290 0
      have ek292 : h265 86 1 = (h236 86 1) := congrFun er290 1
      show ov_R u d ov_m23 55 [(0, ov_r 0), (1, ov_i v2), (2, ov_r 70)] [] z264 h265 (P_OF_town_0_70 t m f0 F z h)
      have f293 : (h265 9 0) = 0 ∧ (h265 36 7) = (h236 36 7) ∧ (h265 1 1) = (h236 1 1) ∧ (h265 90 2) = (h236 90 2) ∧ (h265 0 10) = (h236 0 10) ∧ (h265 0 11) = (h236 0 11) ∧ (h265 0 12) = (h236 0 12) ∧ (h265 0 13) = (h236 0 13) ∧ (h265 3 1) = (h236 3 1) ∧ (h265 36 8) = (h236 36 8) ∧ (h265 46 3) = (h236 46 3) ∧ (h265 46 4) = (h236 46 4) ∧ (h265 49 4) = (h236 49 4) ∧ (h265 49 5) = (h236 49 5) ∧ (h265 64 0) = (h236 64 0) ∧ (h265 76 0) = (h236 76 0) := f263
      clear f263
      have e294 : h265 0 10 = 58 := by omega
      have e295 : h265 0 11 = 70 := by omega
      have e296 : h265 0 12 = 86 := by omega
      refine ov_blk (ls2 := [(0, ov_r 0), (1, ov_i v2), (2, ov_r 70)]) (st2 := [ov_r 0]) (pc2 := 56) b_23_55_1 rfl rfl ?_
      refine ov_cV (as := []) (st := []) (d2 := d - 1) d_23_56 lk_OF_116 rfl (Nat.le_of_ble_eq_true rfl) (c := 0) (zb_0 I266) (zs_0 I266) ⟨by decide, rfl⟩ (by omega) (c_OF_forgetMarks_0_m (d - 1) (by omega) U (ov_I_ff (M := 82207029232540702566515216) I266) (ov_kw_ff (ov_kws (ov_kwu hw) (by decide +kernel)) (by decide +kernel))) ?_
      rintro _ z298 h299 ⟨rfl, I300, f297⟩
      have I300k := I300
      have I300 := ov_I_fr I266 I300k
      have er301 : h299 4 = h265 4 := ov_ff_k I300k (Or.inl (by decide)) (by decide +kernel)
      have ek302 : h299 4 0 = (h265 4 0) := congrFun er301 0
      have ek303 : h299 4 1 = (h265 4 1) := congrFun er301 1
      have ek304 : h299 4 2 = (h265 4 2) := congrFun er301 2
      have ek305 : h299 4 3 = (h265 4 3) := congrFun er301 3
      have ek306 : h299 4 4 = (h265 4 4) := congrFun er301 4
      have ek307 : h299 4 5 = (h265 4 5) := congrFun er301 5
      have er308 : h299 9 = h265 9 := ov_ff_k I300k (Or.inl (by decide)) (by decide +kernel)
      have ek309 : h299 9 0 = (h265 9 0) := congrFun er308 0
      have er310 : h299 58 = h265 58 := ov_ff_k I300k (Or.inr (by decide)) (by decide +kernel)
      have er311 : h299 59 = h265 59 := ov_ff_k I300k (Or.inr (by decide)) (by decide +kernel)
      have er312 : h299 60 = h265 60 := ov_ff_k I300k (Or.inr (by decide)) (by decide +kernel)
      have er313 : h299 61 = h265 61 := ov_ff_k I300k (Or.inr (by decide)) (by decide +kernel)
      have er314 : h299 62 = h265 62 := ov_ff_k I300k (Or.inr (by decide)) (by decide +kernel)
      have er315 : h299 63 = h265 63 := ov_ff_k I300k (Or.inr (by decide)) (by decide +kernel)
      have er316 : h299 64 = h265 64 := ov_ff_k I300k (Or.inr (by decide)) (by decide +kernel)
      have er317 : h299 65 = h265 65 := ov_ff_k I300k (Or.inr (by decide)) (by decide +kernel)
      have er318 : h299 82 = h265 82 := ov_ff_k I300k (Or.inr (by decide)) (by decide +kernel)
      have ek319 : h299 82 0 = (h265 82 0) := congrFun er318 0
      have ek320 : h299 82 1 = (h265 82 1) := congrFun er318 1
      have er321 : h299 86 = h265 86 := ov_ff_k I300k (Or.inr (by decide)) (by decide +kernel)
      have ek322 : h299 86 0 = (h265 86 0) := congrFun er321 0
      have ek323 : h299 86 1 = (h265 86 1) := congrFun er321 1
      show ov_R u d ov_m23 59 [(0, ov_r 0), (1, ov_i v2), (2, ov_r 70)] [] z298 h299 (P_OF_town_0_70 t m f0 F z h)
      have f324 : (h299 35 0) = 0 ∧ (h299 35 1) = 0 ∧ (h299 35 2) = 0 ∧ (h299 35 3) = 0 ∧ (h299 36 7) = (h265 36 7) ∧ (h299 1 1) = (h265 1 1) ∧ (h299 90 2) = (h265 90 2) ∧ (h299 0 10) = (h265 0 10) ∧ (h299 0 11) = (h265 0 11) ∧ (h299 0 12) = (h265 0 12) ∧ (h299 0 13) = (h265 0 13) ∧ (h299 3 1) = (h265 3 1) ∧ (h299 36 8) = (h265 36 8) ∧ (h299 46 3) = (h265 46 3) ∧ (h299 46 4) = (h265 46 4) ∧ (h299 49 4) = (h265 49 4) ∧ (h299 49 5) = (h265 49 5) ∧ (h299 64 0) = (h265 64 0) ∧ (h299 76 0) = (h265 76 0) := f297
      clear f297
      have e325 : h299 0 10 = 58 := by omega
      have e326 : h299 0 11 = 70 := by omega
      have e327 : h299 0 12 = 86 := by omega
      refine ov_blk (ls2 := [(0, ov_r 0), (1, ov_i v2), (2, ov_r 70)]) (st2 := [ov_r 0]) (pc2 := 60) b_23_59_1 rfl rfl ?_
      refine ov_cV (as := []) (st := []) (d2 := d - 1) d_23_60 lk_OF_119 rfl (Nat.le_of_ble_eq_true rfl) (c := 0) (zb_0 I300) (zs_0 I300) ⟨by decide, rfl⟩ (by omega) (c_OF_forgetReckonings_0 (d - 1) (by omega) U (ov_I_ff (M := 82207029232540736926253584) I300)) ?_
      rintro _ z329 h330 ⟨rfl, I331, f328⟩
      have I331k := I331
      have I331 := ov_I_fr I300 I331k
      have er332 : h330 4 = h299 4 := ov_ff_k I331k (Or.inl (by decide)) (by decide +kernel)
      have ek333 : h330 4 0 = (h299 4 0) := congrFun er332 0
      have ek334 : h330 4 1 = (h299 4 1) := congrFun er332 1
      have ek335 : h330 4 2 = (h299 4 2) := congrFun er332 2
      have ek336 : h330 4 3 = (h299 4 3) := congrFun er332 3
      have ek337 : h330 4 4 = (h299 4 4) := congrFun er332 4
      have ek338 : h330 4 5 = (h299 4 5) := congrFun er332 5
      have er339 : h330 9 = h299 9 := ov_ff_k I331k (Or.inl (by decide)) (by decide +kernel)
      have ek340 : h330 9 0 = (h299 9 0) := congrFun er339 0
      have er341 : h330 35 = h299 35 := ov_ff_k I331k (Or.inl (by decide)) (by decide +kernel)
      have ek342 : h330 35 0 = (h299 35 0) := congrFun er341 0
      have ek343 : h330 35 1 = (h299 35 1) := congrFun er341 1
      have ek344 : h330 35 2 = (h299 35 2) := congrFun er341 2
      have ek345 : h330 35 3 = (h299 35 3) := congrFun er341 3
      have er346 : h330 58 = h299 58 := ov_ff_k I331k (Or.inr (by decide)) (by decide +kernel)
      have er347 : h330 59 = h299 59 := ov_ff_k I331k (Or.inr (by decide)) (by decide +kernel)
      have er348 : h330 60 = h299 60 := ov_ff_k I331k (Or.inr (by decide)) (by decide +kernel)
      have er349 : h330 61 = h299 61 := ov_ff_k I331k (Or.inr (by decide)) (by decide +kernel)
      have er350 : h330 62 = h299 62 := ov_ff_k I331k (Or.inr (by decide)) (by decide +kernel)
      have er351 : h330 63 = h299 63 := ov_ff_k I331k (Or.inr (by decide)) (by decide +kernel)
      have er352 : h330 64 = h299 64 := ov_ff_k I331k (Or.inr (by decide)) (by decide +kernel)
      have er353 : h330 65 = h299 65 := ov_ff_k I331k (Or.inr (by decide)) (by decide +kernel)
      have er354 : h330 82 = h299 82 := ov_ff_k I331k (Or.inr (by decide)) (by decide +kernel)
      have ek355 : h330 82 0 = (h299 82 0) := congrFun er354 0
      have ek356 : h330 82 1 = (h299 82 1) := congrFun er354 1
      have er357 : h330 86 = h299 86 := ov_ff_k I331k (Or.inr (by decide)) (by decide +kernel)
      have ek358 : h330 86 0 = (h299 86 0) := congrFun er357 0
      have ek359 : h330 86 1 = (h299 86 1) := congrFun er357 1
      show ov_R u d ov_m23 63 [(0, ov_r 0), (1, ov_i v2), (2, ov_r 70)] [] z329 h330 (P_OF_town_0_70 t m f0 F z h)
      have f360 : (h330 36 7) = 0 ∧ (h330 1 1) = (h299 1 1) ∧ (h330 90 2) = (h299 90 2) ∧ (h330 0 10) = (h299 0 10) ∧ (h330 0 11) = (h299 0 11) ∧ (h330 0 12) = (h299 0 12) ∧ (h330 0 13) = (h299 0 13) ∧ (h330 3 1) = (h299 3 1) ∧ (h330 36 8) = (h299 36 8) ∧ (h330 46 3) = (h299 46 3) ∧ (h330 46 4) = (h299 46 4) ∧ (h330 49 4) = (h299 49 4) ∧ (h330 49 5) = (h299 49 5) ∧ (h330 64 0) = (h299 64 0) ∧ (h330 76 0) = (h299 76 0) := f328
      clear f328
      have e361 : h330 0 10 = 58 := by omega
      have e362 : h330 0 11 = 70 := by omega
      have e363 : h330 0 12 = 86 := by omega
      refine ov_blk (ls2 := [(0, ov_r 0), (1, ov_i v2), (2, ov_r 70)]) (st2 := [ov_i v2]) (pc2 := 64) b_23_63_1 rfl rfl ?_
      have gf364 : 1 ≤ (h330 58 0) ∧ 1 ≤ (h330 58 1) := ov_I_fg (h := h330) (T := 58) (by omega) I331
      have gk : F (-5) 70 = 1 := by omega
      have gf365 : 1 ≤ (h330 70 0) ∧ 1 ≤ (h330 70 1) := ov_I_fk (h := h330) (S := 70) (by omega) I331 gk
      exact ov_reti (st := []) d_23_64 rfl ⟨_, rfl, (ov_I_fd I331), (by show (h330 1 1) = 0 ∧ ((h330 36 7) = 1 → (h330 36 8) = (h330 0 10)) ∧ ((h330 0 10) = 58 ∧ (h330 0 11) = 70 ∧ 0 ≤ (h330 64 0) ∧ 1 ≤ (h330 58 0) ∧ 1 ≤ (h330 58 1) ∨ (h330 0 10) = 70 ∧ (h330 0 11) = 58 ∧ 0 ≤ (h330 76 0) ∧ 1 ≤ (h330 70 0) ∧ 1 ≤ (h330 70 1)) ∧ v2 = f0 ∧ (h330 90 2) = (h 90 2) ∧ (h330 0 12) = (h 0 12) ∧ (h330 0 13) = (h 0 13) ∧ (h330 46 3) = (h 46 3) ∧ (h330 46 4) = (h 46 4) ∧ (h330 49 4) = (h 49 4) ∧ (h330 49 5) = (h 49 5); omega), (Or.inr ⟨by omega, by omega, (by obtain ⟨B, tw, tb⟩ := xt (by omega); exact ⟨B, tw, by rw [show h330 58 = h4 58 from (Eq.trans er346 (Eq.trans er310 (Eq.trans er279 (Eq.trans er245 er219)))), show h330 59 = h4 59 from (Eq.trans er347 (Eq.trans er311 (Eq.trans er280 (Eq.trans er246 er220)))), show h330 60 = h4 60 from (Eq.trans er348 (Eq.trans er312 (Eq.trans er281 (Eq.trans er247 er221)))), show h330 61 = h4 61 from (Eq.trans er349 (Eq.trans er313 (Eq.trans er282 (Eq.trans er248 er222)))), show h330 62 = h4 62 from (Eq.trans er350 (Eq.trans er314 (Eq.trans er283 (Eq.trans er249 er223)))), show h330 63 = h4 63 from (Eq.trans er351 (Eq.trans er315 (Eq.trans er284 (Eq.trans er250 er224)))), show h330 64 = h4 64 from (Eq.trans er352 (Eq.trans er316 (Eq.trans er285 (Eq.trans er251 er225)))), show h330 65 = h4 65 from (Eq.trans er353 (Eq.trans er317 (Eq.trans er286 (Eq.trans er252 er226))))]; exact tb⟩), by omega⟩)⟩
theorem ov_tbs {m m2 b : Nat} (w : Nat.testBit m b = true) (e : m &&& m2 = m) : Nat.testBit m2 b = true := by
  rw [← e, Nat.testBit_and] at w
  revert w
  cases Nat.testBit m2 b <;> simp
/-- the town one is in, of the class, as the town B -/
def ov_HT (h : ov_H) (B : Int → Int) : Prop := (h 0 10 = 58 → tw_TB B (h 58) (h 59) (h 60) (h 61) (h 62) (h 63) (h 64) (h 65)) ∧ (h 0 10 = 70 → tw_TB B (h 70) (h 71) (h 72) (h 73) (h 74) (h 75) (h 76) (h 77))
/-- nothing told, nothing done -/
def ov_S0 (h : ov_H) : Prop := h 35 0 = 0 ∧ h 35 1 = 0 ∧ h 35 2 = 0 ∧ h 35 3 = 0 ∧ h 4 0 = 0 ∧ h 4 1 = 0 ∧ h 4 2 = 0 ∧ h 4 3 = 0 ∧ h 4 4 = 0 ∧ h 4 5 = 0 ∧ h 9 0 = 0 ∧ (h 0 12 = 82 ∧ h 82 0 = 0 ∧ h 82 1 = 0 ∨ h 0 12 = 86 ∧ h 86 0 = 0 ∧ h 86 1 = 0)
def ov_XT (t : Int → Int) (m : Int) (r : Int) (h h' : ov_H) : Prop := (¬ r = 0 ∧ (∀ B : Int → Int, ov_HT h B → ov_HT h' B) ∧ ∀ b : Int, ov_kq b → Nat.testBit 1233104336006921826919776245 b.toNat = true → h' b = h b) ∨ (r = 0 ∧ (∃ B : Int → Int, pt_ET t m 0 B ∧ ov_HT h' B) ∧ ov_S0 h')
theorem ov_HT_cg {h : ov_H} {B B2 : Int → Int} (K : ov_HT h B) (e : ∀ j : Int, 0 ≤ j → j < 280 → B2 j = B j) : ov_HT h B2 := ⟨fun q => ov_TB_cg (K.1 q) e, fun q => ov_TB_cg (K.2 q) e⟩
theorem ov_HT_rw {h h2 : ov_H} {B : Int → Int} (K : ov_HT h B) (e : ∀ b : Int, 0 ≤ b → b < 90 → h2 b = h b) : ov_HT h2 B := by
  unfold ov_HT
  rw [e 0 (by decide) (by decide), e 58 (by decide) (by decide), e 59 (by decide) (by decide), e 60 (by decide) (by decide), e 61 (by decide) (by decide), e 62 (by decide) (by decide), e 63 (by decide) (by decide), e 64 (by decide) (by decide), e 65 (by decide) (by decide), e 70 (by decide) (by decide), e 71 (by decide) (by decide), e 72 (by decide) (by decide), e 73 (by decide) (by decide), e 74 (by decide) (by decide), e 75 (by decide) (by decide), e 76 (by decide) (by decide), e 77 (by decide) (by decide)]
  exact K
theorem ov_S0_rw {h h2 : ov_H} (K : ov_S0 h) (e : ∀ b : Int, 0 ≤ b → b < 90 → h2 b = h b) : ov_S0 h2 := by
  unfold ov_S0
  rw [e 0 (by decide) (by decide), e 4 (by decide) (by decide), e 9 (by decide) (by decide), e 35 (by decide) (by decide), e 82 (by decide) (by decide), e 86 (by decide) (by decide)]
  exact K
/-- rows kept -/
theorem ov_HT_k {h h1 : ov_H} {B : Int → Int} (K : ov_HT h B) (k : ∀ b : Int, (58 ≤ b ∧ b < 66 ∨ 70 ≤ b ∧ b < 78) → h1 b = h b) (e : h1 0 10 = h 0 10) : ov_HT h1 B := by
  unfold ov_HT
  rw [e, k 58 (by decide), k 59 (by decide), k 60 (by decide), k 61 (by decide), k 62 (by decide), k 63 (by decide), k 64 (by decide), k 65 (by decide), k 70 (by decide), k 71 (by decide), k 72 (by decide), k 73 (by decide), k 74 (by decide), k 75 (by decide), k 76 (by decide), k 77 (by decide)]
  exact K
set_option maxHeartbeats 4000000 in
theorem c_OF_town_0_t {u : ov_U} {F : ov_H} (t : Int → Int) (m f0 : Int) (hf : ∀ (f : Int) (B : Int → Int), pt_ET t m f B → f = f0) {z : ov_Z} {h : ov_H} (d : Nat) (hd : 50 ≤ d) (U : ov_cap u) (I : ov_I F z h) (hw : ov_kw 84624216788983341731807771 F) (p0 : h 36 7 = 1 → h 36 8 = h 0 10) (p1 : (h 0 10 = 58 ∧ h 0 11 = 70 ∧ 0 ≤ h 64 0 ∧ F (-5) 58 = 1 ∨ h 0 10 = 70 ∧ h 0 11 = 58 ∧ 0 ≤ h 76 0 ∧ F (-5) 70 = 1)) (et : h 2 = t) (em : h 1 1 = m) : ov_T u d ov_m23 [ov_r 0] z h (fun r0 z' h' => ∃ r : Int, r0 = some (ov_i r) ∧ ov_I F z' h' ∧ ((h' 1 1) = 0 ∧ ((h' 36 7) = 1 → (h' 36 8) = (h' 0 10)) ∧ ((h' 0 10) = 58 ∧ (h' 0 11) = 70 ∧ 0 ≤ (h' 64 0) ∧ 1 ≤ (h' 58 0) ∧ 1 ≤ (h' 58 1) ∨ (h' 0 10) = 70 ∧ (h' 0 11) = 58 ∧ 0 ≤ (h' 76 0) ∧ 1 ≤ (h' 70 0) ∧ 1 ≤ (h' 70 1)) ∧ r = f0 ∧ (h' 90 2) = (h 90 2) ∧ (h' 0 12) = (h 0 12) ∧ (h' 0 13) = (h 0 13) ∧ (h' 46 3) = (h 46 3) ∧ (h' 46 4) = (h 46 4) ∧ (h' 49 4) = (h 49 4) ∧ (h' 49 5) = (h 49 5)) ∧ ov_XT t m r h h') := by
  rcases p1 with ⟨e0, e1, w0, ff⟩ | ⟨e0, e1, w0, ff⟩
  · refine ov_T_wk (c_OF_town_0_58 t m f0 hf d hd U I (ov_kws hw (by decide +kernel)) e0 e1 p0 w0 ff et em) ?_
    rintro r0 z' h' ⟨r, e, I', f, x⟩
    refine ⟨r, e, I', f, ?_⟩
    rcases x with ⟨x1, x2⟩ | ⟨x1, x2, ⟨B, tw, tb⟩, x3⟩
    · refine Or.inl ⟨x1, fun B K => ?_, fun b q w => x2 b q (ov_tbs w (by decide +kernel))⟩
      have e10 : h' 0 10 = h 0 10 := congrFun (x2 0 (Or.inl (by decide)) (by decide +kernel)) 10
      exact ⟨fun _ => by
        rw [x2 58 (Or.inr (by decide)) (by decide +kernel), x2 59 (Or.inr (by decide)) (by decide +kernel), x2 60 (Or.inr (by decide)) (by decide +kernel), x2 61 (Or.inr (by decide)) (by decide +kernel), x2 62 (Or.inr (by decide)) (by decide +kernel), x2 63 (Or.inr (by decide)) (by decide +kernel), x2 64 (Or.inr (by decide)) (by decide +kernel), x2 65 (Or.inr (by decide)) (by decide +kernel)]
        exact K.1 e0, fun q => by
        rw [e10, e0] at q
        exact absurd q (by decide)⟩
    · exact Or.inr ⟨x1, ⟨B, tw, fun q => by
        rw [x2] at q
        exact absurd q (by decide), fun _ => tb⟩, x3⟩
  · refine ov_T_wk (c_OF_town_0_70 t m f0 hf d hd U I (ov_kws hw (by decide +kernel)) e0 e1 p0 w0 ff et em) ?_
    rintro r0 z' h' ⟨r, e, I', f, x⟩
    refine ⟨r, e, I', f, ?_⟩
    rcases x with ⟨x1, x2⟩ | ⟨x1, x2, ⟨B, tw, tb⟩, x3⟩
    · refine Or.inl ⟨x1, fun B K => ?_, fun b q w => x2 b q (ov_tbs w (by decide +kernel))⟩
      have e10 : h' 0 10 = h 0 10 := congrFun (x2 0 (Or.inl (by decide)) (by decide +kernel)) 10
      exact ⟨fun q => by
        rw [e10, e0] at q
        exact absurd q (by decide), fun _ => by
        rw [x2 70 (Or.inr (by decide)) (by decide +kernel), x2 71 (Or.inr (by decide)) (by decide +kernel), x2 72 (Or.inr (by decide)) (by decide +kernel), x2 73 (Or.inr (by decide)) (by decide +kernel), x2 74 (Or.inr (by decide)) (by decide +kernel), x2 75 (Or.inr (by decide)) (by decide +kernel), x2 76 (Or.inr (by decide)) (by decide +kernel), x2 77 (Or.inr (by decide)) (by decide +kernel)]
        exact K.2 e0⟩
    · exact Or.inr ⟨x1, ⟨B, tw, fun _ => tb, fun q => by
        rw [x2] at q
        exact absurd q (by decide)⟩, x3⟩
def ov_XM (t : Int → Int) (m f0 r : Int) (h h' : ov_H) : Prop := r = f0 ∧ (r = 0 ∧ (∀ j : Int, 0 ≤ j → j < 4 → h' 104 j = 0) ∧ (∃ B : Int → Int, pt_ET t m 0 B ∧ ∀ j : Int, 0 ≤ j → j < 280 → h' 96 j = B j) ∧ h' 90 20 = 0 ∧ (∀ j : Int, 0 ≤ j → j < 120 → h' 103 j = 0) ∧ h' 100 0 = 0 ∨ 1 ≤ r ∧ (∀ j : Int, 0 ≤ j → j < 4 → h' 104 j = h 104 j) ∧ (∀ j : Int, j < 340 → h' 96 j = h 96 j) ∧ h' 100 = h 100 ∧ h' 103 = h 103 ∧ h' 90 20 = h 90 20)
set_option maxHeartbeats 4000000 in
theorem c_Mo_town_90_t {u : ov_U} {F : ov_H × ov_Z} (t : Int → Int) (m f0 : Int) (hf : ∀ (f : Int) (B : Int → Int), pt_ET t m f B → f = f0) {z : ov_Z} {h : ov_H} (et : h 91 = t) (em : h 90 2 = m) (wd : pt_WD (h 95)) (d : Nat) (hd : 60 ≤ d) (U : ov_cap u) (I : ov_N F z h) (p0 : 0 ≤ ov_bd F ∧ ov_bd F ≤ 800000000) (p1 : 0 ≤ (h 90 22) ∧ (h 90 22) ≤ 2000000000) : ov_T u d ov_m205 [ov_r 90] z h (fun r0 z' h' => ∃ r : Int, r0 = some (ov_i r) ∧ (ov_N F z' h' ∧ ((h' 90 25) = (h 90 25) ∧ (h' 90 26) = (h 90 26) ∧ (h' 90 28) = (h 90 28) ∧ (h' 90 29) = (h 90 29) ∧ (h' 90 30) = (h 90 30) ∧ (h' 90 34) = (h 90 34) ∧ 0 ≤ r ∧ r ≤ 16005 ∧ (h' 90 2) = 0) ∧ h' 91 = h 91 ∧ h' 95 = h 95 ∧ h' 105 = h 105 ∧ h' 106 = h 106 ∧ h' 109 = h 109 ∧ h' 114 = h 114 ∧ ((ov_MK (h 96) (h 97) (h 98) (h' 96) (h' 97) (h' 98) ∧ (h' 100) = (h 100) ∧ (h' 103) = (h 103) ∧ (h' 90 22) = (h 90 22)) ∨ (ov_WT (h' 96) ∧ ov_CD (h' 96) (h' 97) (h' 98) ∧ (h' 100 0) = 0 ∧ (h' 90 22) = (h 90 22) + 1))) ∧ (ov_XM t m f0 r h h')) := by
  have gm := rg_90_2 I
  refine ov_T_rx (X := fun r z' h' => ov_XM t m f0 r h h') (Q1 := fun r z' h' => ov_N F z' h' ∧ ((h' 90 25) = (h 90 25) ∧ (h' 90 26) = (h 90 26) ∧ (h' 90 28) = (h 90 28) ∧ (h' 90 29) = (h 90 29) ∧ (h' 90 30) = (h 90 30) ∧ (h' 90 34) = (h 90 34) ∧ 0 ≤ r ∧ r ≤ 16005 ∧ (h' 90 2) = 0) ∧ h' 91 = h 91 ∧ h' 95 = h 95 ∧ h' 105 = h 105 ∧ h' 106 = h 106 ∧ h' 109 = h 109 ∧ h' 114 = h 114 ∧ ((ov_MK (h 96) (h 97) (h 98) (h' 96) (h' 97) (h' 98) ∧ (h' 100) = (h 100) ∧ (h' 103) = (h 103) ∧ (h' 90 22) = (h 90 22)) ∨ (ov_WT (h' 96) ∧ ov_CD (h' 96) (h' 97) (h' 98) ∧ (h' 100 0) = 0 ∧ (h' 90 22) = (h 90 22) + 1))) (c_Mo_town_90 d hd U I p0 p1) (c_fMo_town_90 t m d (by omega) U I em (by omega) (by omega) et wd) (fun r z' h' r2 z2 h2 H a1 a2 er R1 R2 => ?_)
  obtain ⟨N1, f, -, -, -, -, -, -, xx⟩ := a1
  obtain ⟨N2, -, -, cs⟩ := a2
  have cel : ∀ j : Int, 0 ≤ j → j < 4 → h' 104 j = h2 104 j := fun j j0 j1 => by
    have g1 := ra_104 N1 j
    have g2 := ra_104 N2 j
    exact ov_el_z (ov_sm_a R1 R2 (by decide) (zb_104 N1).2 (zs_104 N1) (zs_104 N2) (by decide) j0 (by omega)) (by omega) (by omega)
  have cl6 : ∀ j : Int, 0 ≤ j → j < 280 → h' 96 j = h2 96 j := fun j j0 j1 => ov_el_i (ov_sm_a R1 R2 (by decide) (zb_96 N1).2 (zs_96 N1) (zs_96 N2) (by decide) j0 (by omega)) (g96 N1 j) (g96 N2 j)
  have fv : h' 90 22 = h2 90 22 := by
    have ga := rg_90_22 N1
    have gb := rg_90_22 N2
    exact ov_fi (ov_sm_o (c := 1) R1 R2 (by decide) (zb_90 N1).2 (zs_90 N1) (zs_90 N2) 22 (by decide)) (by omega) (by omega)
  have cl3 : ∀ j : Int, 0 ≤ j → j < 2520 → h' 103 j = h2 103 j := fun j j0 j1 => by
    have ga := g103 N1 j
    have gb := g103 N2 j
    exact ov_el_i (ov_sm_a R1 R2 (by decide) (zb_103 N1).2 (zs_103 N1) (zs_103 N2) (by decide) j0 (by omega)) (by omega) (by omega)
  have fu : h' 90 20 = h2 90 20 := by
    have ga := rg_90_20 N1
    have gb := rg_90_20 N2
    exact ov_fi (ov_sm_o (c := 1) R1 R2 (by decide) (zb_90 N1).2 (zs_90 N1) (zs_90 N2) 20 (by decide)) (by omega) (by omega)
  have c0 : h' 100 0 = h2 100 0 := by
    have ga := s100_0 N1
    have gb := s100_0 N2
    exact ov_el_i (ov_sm_a R1 R2 (by decide) (zb_100 N1).2 (zs_100 N1) (zs_100 N2) (by decide) (by decide) (by decide)) (by omega) (by omega)
  rcases cs with ⟨B, ar, tw, mk⟩ | ⟨B, ar, tw, mk, rw_, s0⟩
  · have e := ov_i32 er (by omega) (by omega)
    have e2 := hf r2 B tw
    rcases xx with ⟨mk6, k100, k103, -⟩ | ⟨-, -, -, bad⟩
    · exact ⟨by omega, Or.inr ⟨by omega, fun j j0 j1 => by rw [cel j j0 j1, mk], mk6.1, k100, k103, by omega⟩⟩
    · omega
  · have e := ov_i32 er (by omega) (by omega)
    have e2 := hf r2 B tw
    rw [ar.1] at tw
    exact ⟨by omega, Or.inl ⟨by omega, fun j j0 j1 => by rw [cel j j0 j1]; exact mk j j0 j1, ⟨B, tw, fun j j0 j1 => by rw [cl6 j j0 j1]; exact rw_ j j0 j1⟩, by omega, fun j j0 j1 => by rw [cl3 j j0 (by omega)]; exact s0 j j0 j1, by omega⟩⟩
theorem ov_HT_tn {t : Int → Int} {m f0 r r2 : Int} {h h1 hg h2 : ov_H} (K : ov_HT h (h 96)) (xc : ov_XT t m r h h1) (xm : ov_XM t m f0 r2 hg h2) (er : r = r2) (aU : ∀ b : Int, 0 ≤ b → hg b = h1 b) (bL : ∀ b : Int, 0 ≤ b → b < 90 → h2 b = hg b) (a96 : hg 96 = h 96) : ov_HT h2 (h2 96) := by
  have eb : ∀ b : Int, 0 ≤ b → b < 90 → h2 b = h1 b := fun b h0 h1 => (bL b h0 h1).trans (aU b h0)
  rcases xc with ⟨c1, c2, -⟩ | ⟨c1, ⟨B, c2, c3⟩, -⟩
  · rcases xm with ⟨-, ⟨m1, -⟩ | ⟨-, -, m2, -⟩⟩
    · exact absurd (er.trans m1) c1
    · exact ov_HT_cg (ov_HT_rw (c2 _ K) eb) (fun j j0 j1 => by rw [m2 j (by omega), a96])
  · rcases xm with ⟨-, ⟨-, -, ⟨B2, m1, m2⟩, -⟩ | ⟨m1, -⟩⟩
    · have e := (pt_ET_u c2 m1).2 rfl
      subst e
      exact ov_HT_cg (ov_HT_rw c3 eb) m2
    · omega
theorem ov_tbT {b : Int} (q : 58 ≤ b ∧ b < 66 ∨ 70 ≤ b ∧ b < 78) : Nat.testBit 301124362028858568867840 b.toNat = true := by
  have c : b = 58 ∨ b = 59 ∨ b = 60 ∨ b = 61 ∨ b = 62 ∨ b = 63 ∨ b = 64 ∨ b = 65 ∨ b = 70 ∨ b = 71 ∨ b = 72 ∨ b = 73 ∨ b = 74 ∨ b = 75 ∨ b = 76 ∨ b = 77 := by omega
  rcases c with rfl | rfl | rfl | rfl | rfl | rfl | rfl | rfl | rfl | rfl | rfl | rfl | rfl | rfl | rfl | rfl <;> decide +kernel

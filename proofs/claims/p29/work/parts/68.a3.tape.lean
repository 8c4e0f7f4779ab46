theorem b_51_12_1 : ov_ds ov_m51.2.1 12 [.lload_n 1] = true := by decide +kernel
theorem b_51_13_1 : ov_ds ov_m51.2.1 13 [.lcmp] = true := by decide +kernel
abbrev P_fL1_canEncode (F : ov_H) (z : ov_Z) (h : ov_H) (ce : Int) : Option ov_V → ov_Z → ov_H → Prop := fun r0 z' h' => ∃ r : Int, r0 = some (ov_i r) ∧ z = z' ∧ h = h' ∧ ((r = 0 ∧ (ce < 0 ∨ 255 < ce)) ∨ (r = 1 ∧ (0 ≤ ce ∧ ce ≤ 255)))
set_option maxHeartbeats 4000000 in
theorem c_fL1_canEncode {u : ov_U} {F : ov_H} {z : ov_Z} {h : ov_H} (d : Nat) (hd : 0 ≤ d) (U : ov_cap u) (I : ov_I F z h) (ce : Int) (g_ce : ov_g ce) : ov_T u d ov_m33 [ov_i ce] z h (P_fL1_canEncode F z h ce) := by
  refine ov_enF pf_33 (Nat.le_of_ble_eq_true rfl) ?_
  show ov_R u d ov_m33 0 [(0, ov_i ce)] [] z h (P_fL1_canEncode F z h ce)
  refine ov_blk (ls2 := [(0, ov_i ce)]) (st2 := [ov_i ce]) (pc2 := 1) b_33_0_1 rfl rfl ?_
  refine ov_iflt (tgt := 15) d_33_1 (by decide) (by omega) (fun c1 => ?_) (fun c1 => ?_)
  · skip
    refine ov_blk (ls2 := [(0, ov_i ce)]) (st2 := [ov_i 0]) (pc2 := 16) b_33_15_1 rfl rfl ?_
    exact ov_retz (st := []) d_33_16 rfl (by omega) ⟨_, rfl, rfl, rfl, (Or.inl ⟨rfl, (by show ce < 0 ∨ 255 < ce; omega)⟩)⟩
  · skip
    refine ov_blk (ls2 := [(0, ov_i ce)]) (st2 := [ov_i 255, ov_i ce]) (pc2 := 8) b_33_4_2 rfl rfl ?_
    refine ov_icgt (tgt := 15) d_33_8 (by decide) (by omega) (by omega) (fun c2 => ?_) (fun c2 => ?_)
    · skip
      refine ov_blk (ls2 := [(0, ov_i ce)]) (st2 := [ov_i 0]) (pc2 := 16) b_33_15_1 rfl rfl ?_
      exact ov_retz (st := []) d_33_16 rfl (by omega) ⟨_, rfl, rfl, rfl, (Or.inl ⟨rfl, (by show ce < 0 ∨ 255 < ce; omega)⟩)⟩
    · skip
      refine ov_blk (ls2 := [(0, ov_i ce)]) (st2 := [ov_i 1]) (pc2 := 12) b_33_11_1 rfl rfl ?_
      refine ov_goto (tgt := 16) d_33_12 (by decide) ?_
      exact ov_retz (st := []) d_33_16 rfl (by omega) ⟨_, rfl, rfl, rfl, (Or.inr ⟨rfl, (by show 0 ≤ ce ∧ ce ≤ 255; omega)⟩)⟩
abbrev P_fL1_indexOfChar_m5 (F : ov_H) (z : ov_Z) (h : ov_H) (cq : Int) (fq : Int) (mq : Int) : Option ov_V → ov_Z → ov_H → Prop := fun r0 z' h' => ∃ r : Int, r0 = some (ov_i r) ∧ z = z' ∧ h = h' ∧ (((0 ≤ r ∧ r ≤ 8) ∧ (pt_sg cq)) ∨ (r = (-1) ∧ (¬ pt_sg cq)))
set_option maxHeartbeats 4000000 in
theorem c_fL1_indexOfChar_m5 {u : ov_U} {F : ov_H} {z : ov_Z} {h : ov_H} (d : Nat) (hd : 0 ≤ d) (U : ov_cap u) (I : ov_I F z h) (cq : Int) (fq : Int) (mq : Int) (g_cq : ov_g cq) (g_fq : ov_g fq) (g_mq : ov_g mq) (p0 : 0 ≤ cq ∧ cq ≤ 255) (p1 : fq = 0) (p2 : mq = 8) : ov_T u d ov_m36 [ov_r (-5), ov_i cq, ov_i fq, ov_i mq] z h (P_fL1_indexOfChar_m5 F z h cq fq mq) := by
  refine ov_enF pf_36 (Nat.le_of_ble_eq_true rfl) ?_
  show ov_R u d ov_m36 0 [(0, ov_r (-5)), (1, ov_i cq), (2, ov_i fq), (3, ov_i mq)] [] z h (P_fL1_indexOfChar_m5 F z h cq fq mq)
  refine ov_blk (ls2 := [(0, ov_r (-5)), (1, ov_i cq), (2, ov_i fq), (3, ov_i mq)]) (st2 := [ov_i cq]) (pc2 := 1) b_36_0_1 rfl rfl ?_
  have g1 := pt_i2b_g cq
  refine pt_i2bT d_36_1 ?_
  refine ov_blk (ls2 := [(0, ov_r (-5)), (1, ov_i cq), (2, ov_i fq), (3, ov_i mq), (4, ov_i (pt_i2b cq)), (5, ov_i fq)]) (st2 := []) (pc2 := 7) b_36_2_3 rfl rfl ?_
  have L5 : ∀ (n2 : Nat) (x5 : Int) (xj : ∀ j : Int, 0 ≤ j → j < x5 → pt_bv j ≠ pt_i2b cq) (q4 : 0 ≤ x5 ∧ x5 ≤ 8), 8 - x5 < (n2 : Int) → ov_R u d ov_m36 7 [(0, ov_r (-5)), (1, ov_i cq), (2, ov_i fq), (3, ov_i mq), (4, ov_i (pt_i2b cq)), (5, ov_i x5)] [] z h (P_fL1_indexOfChar_m5 F z h cq fq mq) := by
    intro n2
    induction n2 with
    | zero =>
      intro x5 xj q4 hn6
      exact absurd hn6 (by omega)
    | succ n2 ih3 =>
      intro x5 xj q4 hn6
      refine ov_blk (ls2 := [(0, ov_r (-5)), (1, ov_i cq), (2, ov_i fq), (3, ov_i mq), (4, ov_i (pt_i2b cq)), (5, ov_i x5)]) (st2 := [ov_i mq, ov_i x5]) (pc2 := 10) b_36_7_2 rfl rfl ?_
      refine ov_icge (tgt := 31) d_36_10 (by decide) (by omega) (by omega) (fun c7 => ?_) (fun c7 => ?_)
      · skip
        refine ov_blk (ls2 := [(0, ov_r (-5)), (1, ov_i cq), (2, ov_i fq), (3, ov_i mq), (4, ov_i (pt_i2b cq)), (5, ov_i x5)]) (st2 := [ov_i (-1)]) (pc2 := 32) b_36_31_1 rfl rfl ?_
        exact ov_reti (st := []) d_36_32 rfl ⟨_, rfl, rfl, rfl, (Or.inr ⟨rfl, pt_sg_f p0 (fun j a b => xj j a (by omega))⟩)⟩
      · skip
        refine ov_blk (ls2 := [(0, ov_r (-5)), (1, ov_i cq), (2, ov_i fq), (3, ov_i mq), (4, ov_i (pt_i2b cq)), (5, ov_i x5)]) (st2 := [ov_i x5, ov_r (-5)]) (pc2 := 16) b_36_13_2 rfl rfl ?_
        have g8 := pt_bv_g x5
        refine pt_baldB d_36_16 U.2.2 (by omega) ?_
        refine ov_blk (ls2 := [(0, ov_r (-5)), (1, ov_i cq), (2, ov_i fq), (3, ov_i mq), (4, ov_i (pt_i2b cq)), (5, ov_i x5)]) (st2 := [ov_i (pt_i2b cq), ov_i (pt_bv x5)]) (pc2 := 19) b_36_17_1 rfl rfl ?_
        refine ov_icne (tgt := 25) d_36_19 (by decide) (by omega) (by omega) (fun c9 => ?_) (fun c9 => ?_)
        · skip
          refine ov_blk (ls2 := [(0, ov_r (-5)), (1, ov_i cq), (2, ov_i fq), (3, ov_i mq), (4, ov_i (pt_i2b cq)), (5, ov_i (x5 + 1))]) (st2 := []) (pc2 := 28) b_36_25_1 rfl rfl ?_
          refine ov_goto (tgt := 7) d_36_28 (by decide) ?_
          exact ih3 (x5 + 1) (fun j a b => if e : j = x5 then (by rw [e]; omega) else xj j a (by omega)) (by show 0 ≤ (x5 + 1) ∧ (x5 + 1) ≤ 8; omega) (by omega)
        · skip
          refine ov_blk (ls2 := [(0, ov_r (-5)), (1, ov_i cq), (2, ov_i fq), (3, ov_i mq), (4, ov_i (pt_i2b cq)), (5, ov_i x5)]) (st2 := [ov_i x5]) (pc2 := 24) b_36_22_1 rfl rfl ?_
          exact ov_reti (st := []) d_36_24 rfl ⟨_, rfl, rfl, rfl, (Or.inl ⟨(by show 0 ≤ x5 ∧ x5 ≤ 8; omega), pt_sg_t p0 (i := x5) (by omega) (by omega)⟩)⟩
  exact L5 9 fq (fun j a b => by omega) (by show 0 ≤ fq ∧ fq ≤ 8; omega) (by omega)
abbrev P_fL1_indexOf_m5 (F : ov_H) (z : ov_Z) (h : ov_H) (ch : Int) (fr : Int) (mx : Int) : Option ov_V → ov_Z → ov_H → Prop := fun r0 z' h' => ∃ r : Int, r0 = some (ov_i r) ∧ z = z' ∧ h = h' ∧ (((0 ≤ r ∧ r ≤ 8) ∧ (pt_sg ch)) ∨ (r = (-1) ∧ (¬ pt_sg ch)))
set_option maxHeartbeats 4000000 in
theorem c_fL1_indexOf_m5 {u : ov_U} {F : ov_H} {z : ov_Z} {h : ov_H} (d : Nat) (hd : 1 ≤ d) (U : ov_cap u) (I : ov_I F z h) (ch : Int) (fr : Int) (mx : Int) (g_ch : ov_g ch) (g_fr : ov_g fr) (g_mx : ov_g mx) (p0 : fr = 0) (p1 : mx = 8) : ov_T u d ov_m32 [ov_r (-5), ov_i ch, ov_i fr, ov_i mx] z h (P_fL1_indexOf_m5 F z h ch fr mx) := by
  refine ov_enF pf_32 (Nat.le_of_ble_eq_true rfl) ?_
  show ov_R u d ov_m32 0 [(0, ov_r (-5)), (1, ov_i ch), (2, ov_i fr), (3, ov_i mx)] [] z h (P_fL1_indexOf_m5 F z h ch fr mx)
  refine ov_blk (ls2 := [(0, ov_r (-5)), (1, ov_i ch), (2, ov_i fr), (3, ov_i mx)]) (st2 := [ov_i ch]) (pc2 := 1) b_32_0_1 rfl rfl ?_
  refine ov_cS (as := [ov_i ch]) (st := []) (d2 := d - 1) d_32_1 lk_StringLatin1_88 rfl (Nat.le_of_ble_eq_true rfl) (by omega) (c_fL1_canEncode (d - 1) (by omega) U I ch (by omega)) ?_
  rintro _ _ _ ⟨v1, rfl, rfl, rfl, y2⟩
  rcases y2 with ⟨rfl, f3⟩ | ⟨rfl, f4⟩
  · skip
    show ov_R u d ov_m32 4 [(0, ov_r (-5)), (1, ov_i ch), (2, ov_i fr), (3, ov_i mx)] [ov_i 0] z h (P_fL1_indexOf_m5 F z h ch fr mx)
    have f5 : ch < 0 ∨ 255 < ch := f3
    clear f3
    refine ov_ifne (tgt := 9) d_32_4 (by decide) (by omega) (fun c6 => ?_) (fun c6 => ?_)
    · omega
    · skip
      refine ov_blk (ls2 := [(0, ov_r (-5)), (1, ov_i ch), (2, ov_i fr), (3, ov_i mx)]) (st2 := [ov_i (-1)]) (pc2 := 8) b_32_7_1 rfl rfl ?_
      exact ov_reti (st := []) d_32_8 rfl ⟨_, rfl, rfl, rfl, (Or.inr ⟨rfl, fun q => by unfold pt_sg at q; omega⟩)⟩
  · skip
    show ov_R u d ov_m32 4 [(0, ov_r (-5)), (1, ov_i ch), (2, ov_i fr), (3, ov_i mx)] [ov_i 1] z h (P_fL1_indexOf_m5 F z h ch fr mx)
    have f7 : 0 ≤ ch ∧ ch ≤ 255 := f4
    clear f4
    refine ov_ifne (tgt := 9) d_32_4 (by decide) (by omega) (fun c8 => ?_) (fun c8 => ?_)
    · skip
      refine ov_blk (ls2 := [(0, ov_r (-5)), (1, ov_i ch), (2, ov_i fr), (3, ov_i mx)]) (st2 := [ov_i 0, ov_i fr]) (pc2 := 11) b_32_9_2 rfl rfl ?_
      refine ov_cS (as := [ov_i fr, ov_i 0]) (st := []) (d2 := d - 1) d_32_11 lk_StringLatin1_92 rfl (Nat.le_of_ble_eq_true rfl) (by omega) (c_Math_max (d - 1) (by omega) U I fr 0 (by omega) (by omega)) ?_
      rintro _ _ _ ⟨v9, rfl, rfl, rfl, f10⟩
      have f11 : fr ≤ v9 ∧ (0 : Int) ≤ v9 ∧ (v9 = fr ∨ v9 = (0 : Int)) := f10
      clear f10
      show ov_R u d ov_m32 14 [(0, ov_r (-5)), (1, ov_i ch), (2, ov_i fr), (3, ov_i mx)] [ov_i v9] z h (P_fL1_indexOf_m5 F z h ch fr mx)
      refine ov_blk (ls2 := [(0, ov_r (-5)), (1, ov_i ch), (2, ov_i v9), (3, ov_i mx)]) (st2 := [ov_r (-5), ov_i mx]) (pc2 := 17) b_32_14_3 rfl rfl ?_
      refine ov_alenB d_32_17 U.2.2 ?_
      refine ov_cS (as := [ov_i mx, ov_i 8]) (st := []) (d2 := d - 1) d_32_18 lk_StringLatin1_38 rfl (Nat.le_of_ble_eq_true rfl) (by omega) (c_Math_min (d - 1) (by omega) U I mx 8 (by omega) (by omega)) ?_
      rintro _ _ _ ⟨v12, rfl, rfl, rfl, f13⟩
      have f14 : v12 ≤ mx ∧ v12 ≤ (8 : Int) ∧ (v12 = mx ∨ v12 = (8 : Int)) := f13
      clear f13
      show ov_R u d ov_m32 21 [(0, ov_r (-5)), (1, ov_i ch), (2, ov_i v9), (3, ov_i mx)] [ov_i v12] z h (P_fL1_indexOf_m5 F z h ch fr mx)
      refine ov_blk (ls2 := [(0, ov_r (-5)), (1, ov_i ch), (2, ov_i v9), (3, ov_i v12)]) (st2 := [ov_i v12, ov_i v9]) (pc2 := 24) b_32_21_3 rfl rfl ?_
      refine ov_iclt (tgt := 29) d_32_24 (by decide) (by omega) (by omega) (fun c15 => ?_) (fun c15 => ?_)
      · skip
        refine ov_blk (ls2 := [(0, ov_r (-5)), (1, ov_i ch), (2, ov_i v9), (3, ov_i v12)]) (st2 := [ov_i v12, ov_i v9, ov_i ch, ov_r (-5)]) (pc2 := 33) b_32_29_4 rfl rfl ?_
        refine ov_cS (as := [ov_r (-5), ov_i ch, ov_i v9, ov_i v12]) (st := []) (d2 := d - 1) d_32_33 lk_StringLatin1_95 rfl (Nat.le_of_ble_eq_true rfl) (by omega) (c_fL1_indexOfChar_m5 (d - 1) (by omega) U I ch v9 v12 (by omega) (by omega) (by omega) (by show 0 ≤ ch ∧ ch ≤ 255; omega) (by show v9 = 0; omega) (by show v12 = 8; omega)) ?_
        rintro _ _ _ ⟨v16, rfl, rfl, rfl, y17⟩
        rcases y17 with ⟨f18, y19⟩ | ⟨rfl, y20⟩
        · skip
          show ov_R u d ov_m32 36 [(0, ov_r (-5)), (1, ov_i ch), (2, ov_i v9), (3, ov_i v12)] [ov_i v16] z h (P_fL1_indexOf_m5 F z h ch fr mx)
          have f21 : 0 ≤ v16 ∧ v16 ≤ 8 := f18
          clear f18
          have y19_ : pt_sg ch := y19
          exact ov_reti (st := []) d_32_36 rfl ⟨_, rfl, rfl, rfl, (Or.inl ⟨(by show 0 ≤ v16 ∧ v16 ≤ 8; omega), y19_⟩)⟩
        · skip
          show ov_R u d ov_m32 36 [(0, ov_r (-5)), (1, ov_i ch), (2, ov_i v9), (3, ov_i v12)] [ov_i (-1)] z h (P_fL1_indexOf_m5 F z h ch fr mx)
          have y20_ : ¬ pt_sg ch := y20
          exact ov_reti (st := []) d_32_36 rfl ⟨_, rfl, rfl, rfl, (Or.inr ⟨rfl, y20_⟩)⟩
      · skip
        refine ov_blk (ls2 := [(0, ov_r (-5)), (1, ov_i ch), (2, ov_i v9), (3, ov_i v12)]) (st2 := [ov_i (-1)]) (pc2 := 28) b_32_27_1 rfl rfl ?_
        exact ov_reti (st := []) d_32_28 rfl ⟨_, rfl, rfl, rfl, (Or.inr ⟨rfl, fun q => by unfold pt_sg at q; omega⟩)⟩
    · omega
abbrev P_fString_indexOf_III_m3 (F : ov_H) (z : ov_Z) (h : ov_H) (cx : Int) (bx : Int) : Option ov_V → ov_Z → ov_H → Prop := fun r0 z' h' => ∃ r : Int, r0 = some (ov_i r) ∧ z = z' ∧ h = h' ∧ (((0 ≤ r ∧ r ≤ 8) ∧ (pt_sg cx)) ∨ (r = (-1) ∧ (¬ pt_sg cx)))
set_option maxHeartbeats 4000000 in
theorem c_fString_indexOf_III_m3 {u : ov_U} {F : ov_H} {z : ov_Z} {h : ov_H} (d : Nat) (hd : 2 ≤ d) (U : ov_cap u) (I : ov_I F z h) (cx : Int) (bx : Int) (g_cx : ov_g cx) (g_bx : ov_g bx) (p0 : bx = 0) : ov_T u d ov_m28 [ov_r (-3), ov_i cx, ov_i bx] z h (P_fString_indexOf_III_m3 F z h cx bx) := by
  refine ov_enF pf_28 (Nat.le_of_ble_eq_true rfl) ?_
  show ov_R u d ov_m28 0 [(0, ov_r (-3)), (1, ov_i cx), (2, ov_i bx)] [] z h (P_fString_indexOf_III_m3 F z h cx bx)
  refine ov_blk (ls2 := [(0, ov_r (-3)), (1, ov_i cx), (2, ov_i bx)]) (st2 := [ov_r (-3)]) (pc2 := 1) b_28_0_1 rfl rfl ?_
  refine ov_cVS (as := []) (st := []) (d2 := d - 1) d_28_1 lk_String_492 rfl (Nat.le_of_ble_eq_true rfl) U.2.2 rfl (by omega) (c_String_isLatin1_m3 (d - 1) (by omega) U I) ?_
  rintro _ _ _ ⟨v1, rfl, rfl, rfl, f2⟩
  have f3 : v1 = 1 := f2
  clear f2
  show ov_R u d ov_m28 4 [(0, ov_r (-3)), (1, ov_i cx), (2, ov_i bx)] [ov_i v1] z h (P_fString_indexOf_III_m3 F z h cx bx)
  refine ov_ifeq (tgt := 23) d_28_4 (by decide) (by omega) (fun c4 => ?_) (fun c4 => ?_)
  · omega
  · skip
    refine ov_blk (ls2 := [(0, ov_r (-3)), (1, ov_i cx), (2, ov_i bx)]) (st2 := [ov_r (-3)]) (pc2 := 8) b_28_7_1 rfl rfl ?_
    refine ov_gfV d_28_8 rfl U.2.2 ?_
    refine ov_blk (ls2 := [(0, ov_r (-3)), (1, ov_i cx), (2, ov_i bx)]) (st2 := [ov_r (-3), ov_i bx, ov_i cx, ov_r (-5)]) (pc2 := 14) b_28_11_3 rfl rfl ?_
    refine ov_cVS (as := []) (st := [ov_i bx, ov_i cx, ov_r (-5)]) (d2 := d - 1) d_28_14 lk_String_505 rfl (Nat.le_of_ble_eq_true rfl) U.2.2 rfl (by omega) (c_String_length_m3 (d - 1) (by omega) U I) ?_
    rintro _ _ _ ⟨v5, rfl, rfl, rfl, f6⟩
    have f7 : v5 = 8 := f6
    clear f6
    show ov_R u d ov_m28 17 [(0, ov_r (-3)), (1, ov_i cx), (2, ov_i bx)] [ov_i v5, ov_i bx, ov_i cx, ov_r (-5)] z h (P_fString_indexOf_III_m3 F z h cx bx)
    refine ov_cS (as := [ov_r (-5), ov_i cx, ov_i bx, ov_i v5]) (st := []) (d2 := d - 1) d_28_17 lk_String_637 rfl (Nat.le_of_ble_eq_true rfl) (by omega) (c_fL1_indexOf_m5 (d - 1) (by omega) U I cx bx v5 (by omega) (by omega) (by omega) (by show bx = 0; omega) (by show v5 = 8; omega)) ?_
    rintro _ _ _ ⟨v8, rfl, rfl, rfl, y9⟩
    rcases y9 with ⟨f10, y11⟩ | ⟨rfl, y12⟩
    · skip
      show ov_R u d ov_m28 20 [(0, ov_r (-3)), (1, ov_i cx), (2, ov_i bx)] [ov_i v8] z h (P_fString_indexOf_III_m3 F z h cx bx)
      have f13 : 0 ≤ v8 ∧ v8 ≤ 8 := f10
      clear f10
      have y11_ : pt_sg cx := y11
      refine ov_goto (tgt := 36) d_28_20 (by decide) ?_
      exact ov_reti (st := []) d_28_36 rfl ⟨_, rfl, rfl, rfl, (Or.inl ⟨(by show 0 ≤ v8 ∧ v8 ≤ 8; omega), y11_⟩)⟩
    · skip
      show ov_R u d ov_m28 20 [(0, ov_r (-3)), (1, ov_i cx), (2, ov_i bx)] [ov_i (-1)] z h (P_fString_indexOf_III_m3 F z h cx bx)
      have y12_ : ¬ pt_sg cx := y12
      refine ov_goto (tgt := 36) d_28_20 (by decide) ?_
      exact ov_reti (st := []) d_28_36 rfl ⟨_, rfl, rfl, rfl, (Or.inr ⟨rfl, y12_⟩)⟩
abbrev P_fString_indexOf_II_m3 (F : ov_H) (z : ov_Z) (h : ov_H) (a : Int) : Option ov_V → ov_Z → ov_H → Prop := fun r0 z' h' => ∃ r : Int, r0 = some (ov_i r) ∧ z = z' ∧ h = h' ∧ (((0 ≤ r ∧ r ≤ 8) ∧ (pt_sg a)) ∨ (r = (-1) ∧ (¬ pt_sg a)))
set_option maxHeartbeats 4000000 in
theorem c_fString_indexOf_II_m3 {u : ov_U} {F : ov_H} {z : ov_Z} {h : ov_H} (d : Nat) (hd : 3 ≤ d) (U : ov_cap u) (I : ov_I F z h) (a : Int) (g_a : ov_g a) : ov_T u d ov_m27 [ov_r (-3), ov_i a] z h (P_fString_indexOf_II_m3 F z h a) := by
  refine ov_enF pf_27 (Nat.le_of_ble_eq_true rfl) ?_
  show ov_R u d ov_m27 0 [(0, ov_r (-3)), (1, ov_i a)] [] z h (P_fString_indexOf_II_m3 F z h a)
  refine ov_blk (ls2 := [(0, ov_r (-3)), (1, ov_i a)]) (st2 := [ov_i 0, ov_i a, ov_r (-3)]) (pc2 := 3) b_27_0_3 rfl rfl ?_
  refine ov_cVS (as := [ov_i a, ov_i 0]) (st := []) (d2 := d - 1) d_27_3 lk_String_633 rfl (Nat.le_of_ble_eq_true rfl) U.2.2 rfl (by omega) (c_fString_indexOf_III_m3 (d - 1) (by omega) U I a 0 (by omega) (by omega) (by show (0 : Int) = 0; omega)) ?_
  rintro _ _ _ ⟨v1, rfl, rfl, rfl, y2⟩
  rcases y2 with ⟨f3, y4⟩ | ⟨rfl, y5⟩
  · skip
    show ov_R u d ov_m27 6 [(0, ov_r (-3)), (1, ov_i a)] [ov_i v1] z h (P_fString_indexOf_II_m3 F z h a)
    have f6 : 0 ≤ v1 ∧ v1 ≤ 8 := f3
    clear f3
    have y4_ : pt_sg a := y4
    exact ov_reti (st := []) d_27_6 rfl ⟨_, rfl, rfl, rfl, (Or.inl ⟨(by show 0 ≤ v1 ∧ v1 ≤ 8; omega), y4_⟩)⟩
  · skip
    show ov_R u d ov_m27 6 [(0, ov_r (-3)), (1, ov_i a)] [ov_i (-1)] z h (P_fString_indexOf_II_m3 F z h a)
    have y5_ : ¬ pt_sg a := y5
    exact ov_reti (st := []) d_27_6 rfl ⟨_, rfl, rfl, rfl, (Or.inr ⟨rfl, y5_⟩)⟩
abbrev P_fTape_advance_1 (F : ov_H) (z : ov_Z) (h : ov_H) (t : Int → Int) (m : Int) (q : Int) (pp : Int) : Option ov_V → ov_Z → ov_H → Prop := fun r0 z' h' => r0 = none ∧ ov_I F z' h' ∧ (∀ a : Int, a ≠ 1 → h' a = h a) ∧ (pt_TC t m (h' 1) pp)
set_option maxHeartbeats 4000000 in
theorem c_fTape_advance_1 {u : ov_U} {F : ov_H} (t : Int → Int) (m : Int) (q : Int) (pp : Int) {z : ov_Z} {h : ov_H} (d : Nat) (hd : 4 ≤ d) (U : ov_cap u) (I : ov_I F z h) (hw : ov_kw 2 F) (p0 : (h 1 1) = m) (p1 : (h 1 7) = q) (p2 : 0 ≤ q ∧ q ≤ m ∧ m ≤ 1000) (et : (h 2) = t) (ep : pt_rn pt_bB t m q = pp) : ov_T u d ov_m26 [ov_r 1] z h (P_fTape_advance_1 F z h t m q pp) := by
  refine ov_en rfl (Nat.le_of_ble_eq_true rfl) ?_
  show ov_R u d ov_m26 0 [(0, ov_r 1)] [] z h (P_fTape_advance_1 F z h t m q pp)
  have eb2 : q ≤ pp ∧ pp ≤ m := by rw [← ep]; exact ⟨(pt_rn_b (P := pt_bB) (t := t) (n := m) (p := q)).1, (pt_rn_b (P := pt_bB) (t := t) (n := m) (p := q)).2 (by omega)⟩
  have J1 : ∀ (z2 : ov_Z) (h3 : ov_H) (I4 : ov_I F z2 h3) (E5 : h3 2 = h 2) (fr6 : ∀ a : Int, a ≠ 1 → h3 a = h a) (xl : pt_rn pt_lB t m pp = pp) (xd : pt_rn pt_dB t m pp = (h3 1 7)) (xn : (h3 1 7) - pp ≤ 4 → (h3 1 4) = pt_wv 10 48 t pp (Int.toNat ((h3 1 7) - pp))) (q7 : (h3 1 1) = m ∧ (h3 1 3) = pp ∧ pp ≤ (h3 1 7) ∧ (h3 1 7) ≤ m ∧ 0 ≤ pp), ov_R u d ov_m26 255 [(0, ov_r 1)] [] z2 h3 (P_fTape_advance_1 F z h t m q pp) := by
    intro z2 h3 I4 E5 fr6 xl xd xn q7
    refine ov_blk (ls2 := [(0, ov_r 1)]) (st2 := [ov_r 1]) (pc2 := 256) b_26_255_1 rfl rfl ?_
    refine ov_getf (v := ov_i (h3 1 7)) d_26_256 fl_Tape_21 (zb_1 I4) (zs_1 I4) rfl ?_
    have g8 := rg_1_7 I4
    refine ov_blk (ls2 := [(0, ov_r 1)]) (st2 := [ov_r 1, ov_i (h3 1 7)]) (pc2 := 260) b_26_259_1 rfl rfl ?_
    refine ov_getf (v := ov_i (h3 1 3)) d_26_260 fl_Tape_27 (zb_1 I4) (zs_1 I4) rfl ?_
    have g9 := rg_1_3 I4
    refine ov_icle (tgt := 289) d_26_263 (by decide) (by omega) (by omega) (fun c10 => ?_) (fun c10 => ?_)
    · skip
      refine ov_blk (ls2 := [(0, ov_r 1)]) (st2 := [ov_i 0, ov_r 1]) (pc2 := 291) b_26_289_2 rfl rfl ?_
      refine ov_putf (x := 0) d_26_291 fl_Tape_34 (zb_1 I4) (zs_1 I4) rfl nk_0 rfl ?_
      have I11 := up_1_2 (x := 0) I4 (by omega) (hw 1 (by decide +kernel))
      show ov_R u d ov_m26 294 [(0, ov_r 1)] [] z2 (ov_up h3 1 2 0) (P_fTape_advance_1 F z h t m q pp)
      refine ov_blk (ls2 := [(0, ov_r 1)]) (st2 := [ov_r 1]) (pc2 := 295) b_26_294_1 rfl rfl ?_
      refine ov_getf (v := ov_i (h3 1 7)) d_26_295 fl_Tape_21 (zb_1 I11) (zs_1 I11) rfl ?_
      refine ov_blk (ls2 := [(0, ov_r 1)]) (st2 := [ov_r 1, ov_i (h3 1 7)]) (pc2 := 299) b_26_298_1 rfl rfl ?_
      refine ov_getf (v := ov_i (h3 1 1)) d_26_299 fl_Tape_17 (zb_1 I11) (zs_1 I11) rfl ?_
      have g13 := rg_1_1 I4
      refine ov_icge (tgt := 349) d_26_302 (by decide) (by omega) (by omega) (fun c14 => ?_) (fun c14 => ?_)
      · skip
        exact ov_retv (st := []) d_26_349 rfl ⟨rfl, I11, (fun a ca => Eq.trans (by show (ov_up h3 1 2 0) a = h3 a; rw [ov_up_ne (by omega)]) (fr6 a ca)), (pt_TCe (by show (h3 1 1) = m; omega) (by show (h3 1 3) = pp; omega) (by show (h3 1 7) = pp; omega) (by omega) (by omega) (by omega) rfl)⟩
      · skip
        refine ov_blk (ls2 := [(0, ov_r 1)]) (st2 := [ov_r 1, ov_r 1]) (pc2 := 307) b_26_305_2 rfl rfl ?_
        refine ov_getf (v := ov_r 2) d_26_307 fl_Tape_9 (zb_1 I11) (zs_1 I11) (congrArg ov_r (rg_1_0 I11)) ?_
        refine ov_blk (ls2 := [(0, ov_r 1)]) (st2 := [ov_r 1, ov_r 2, ov_r 1]) (pc2 := 311) b_26_310_1 rfl rfl ?_
        refine ov_getf (v := ov_i (h3 1 7)) d_26_311 fl_Tape_21 (zb_1 I11) (zs_1 I11) rfl ?_
        refine ov_cald d_26_314 (zb_2 I11) (zs_2 I11) (by omega) ?_
        have g17 := ra_2 I11 (h3 1 7)
        have e16 : (ov_up h3 1 2 0) 2 (h3 1 7) = (t (h3 1 7)) := Eq.trans (congrFun (show (ov_up h3 1 2 0) 2 = h 2 from E5) (h3 1 7)) (congrFun et (h3 1 7))
        rw [e16] at g17
        show ov_R u d ov_m26 315 [(0, ov_r 1)] [ov_i ((ov_up h3 1 2 0) 2 (h3 1 7)), ov_r 1] z2 (ov_up h3 1 2 0) (P_fTape_advance_1 F z h t m q pp)
        rw [e16]
        show ov_R u d ov_m26 315 [(0, ov_r 1)] [ov_i (t (h3 1 7)), ov_r 1] z2 (ov_up h3 1 2 0) (P_fTape_advance_1 F z h t m q pp)
        refine ov_putf (x := (t (h3 1 7))) d_26_315 fl_Tape_40 (zb_1 I11) (zs_1 I11) rfl (nk_4 (by omega)) rfl ?_
        have I18 := up_1_5 (x := (t (h3 1 7))) I11 (by omega) (hw 1 (by decide +kernel))
        show ov_R u d ov_m26 318 [(0, ov_r 1)] [] z2 (ov_up (ov_up h3 1 2 0) 1 5 (t (h3 1 7))) (P_fTape_advance_1 F z h t m q pp)
        refine ov_blk (ls2 := [(0, ov_r 1)]) (st2 := [ov_r 1]) (pc2 := 319) b_26_318_1 rfl rfl ?_
        refine ov_ldcT d_26_319 rfl U.2.2 ?_
        refine ov_blk (ls2 := [(0, ov_r 1)]) (st2 := [ov_r 1, ov_r (-3), ov_r 1]) (pc2 := 322) b_26_321_1 rfl rfl ?_
        refine ov_getf (v := ov_i (t (h3 1 7))) d_26_322 fl_Tape_40 (zb_1 I18) (zs_1 I18) rfl ?_
        refine ov_cVS (as := [ov_i (t (h3 1 7))]) (st := [ov_r 1]) (d2 := d - 1) d_26_325 lk_Tape_46 rfl (Nat.le_of_ble_eq_true rfl) U.2.2 rfl (by omega) (c_fString_indexOf_II_m3 (d - 1) (by omega) U I18 (t (h3 1 7)) (by omega)) ?_
        rintro _ _ _ ⟨v19, rfl, rfl, rfl, y20⟩
        rcases y20 with ⟨f21, y22⟩ | ⟨rfl, y23⟩
        · skip
          show ov_R u d ov_m26 328 [(0, ov_r 1)] [ov_i v19, ov_r 1] z2 (ov_up (ov_up h3 1 2 0) 1 5 (t (h3 1 7))) (P_fTape_advance_1 F z h t m q pp)
          have f24 : 0 ≤ v19 ∧ v19 ≤ 8 := f21
          clear f21
          have y22_ : pt_sg (t (h3 1 7)) := y22
          refine ov_iflt (tgt := 335) d_26_328 (by decide) (by omega) (fun c25 => ?_) (fun c25 => ?_)
          · omega
          · skip
            refine ov_blk (ls2 := [(0, ov_r 1)]) (st2 := [ov_i 4, ov_r 1]) (pc2 := 332) b_26_331_1 rfl rfl ?_
            refine ov_goto (tgt := 336) d_26_332 (by decide) ?_
            refine ov_putf (x := 4) d_26_336 fl_Tape_34 (zb_1 I18) (zs_1 I18) rfl nk_0 rfl ?_
            have I26 := up_1_2 (x := 4) I18 (by omega) (hw 1 (by decide +kernel))
            show ov_R u d ov_m26 339 [(0, ov_r 1)] [] z2 (ov_up (ov_up (ov_up h3 1 2 0) 1 5 (t (h3 1 7))) 1 2 4) (P_fTape_advance_1 F z h t m q pp)
            refine ov_blk (ls2 := [(0, ov_r 1)]) (st2 := [ov_r 1, ov_r 1]) (pc2 := 341) b_26_339_2 rfl rfl ?_
            refine ov_getf (v := ov_i (h3 1 7)) d_26_341 fl_Tape_21 (zb_1 I26) (zs_1 I26) rfl ?_
            refine ov_blk (ls2 := [(0, ov_r 1)]) (st2 := [ov_i ((h3 1 7) + 1), ov_r 1]) (pc2 := 346) b_26_344_2 rfl rfl ?_
            refine ov_putf (x := ((h3 1 7) + 1)) d_26_346 fl_Tape_21 (zb_1 I26) (zs_1 I26) rfl nk_0 rfl ?_
            have I28 := up_1_7 (x := ((h3 1 7) + 1)) I26 (by omega) (hw 1 (by decide +kernel))
            show ov_R u d ov_m26 349 [(0, ov_r 1)] [] z2 (ov_up (ov_up (ov_up (ov_up h3 1 2 0) 1 5 (t (h3 1 7))) 1 2 4) 1 7 ((h3 1 7) + 1)) (P_fTape_advance_1 F z h t m q pp)
            exact ov_retv (st := []) d_26_349 rfl ⟨rfl, I28, (fun a ca => Eq.trans (by show (ov_up (ov_up (ov_up (ov_up h3 1 2 0) 1 5 (t (h3 1 7))) 1 2 4) 1 7 ((h3 1 7) + 1)) a = h3 a; rw [ov_up_ne (by omega), ov_up_ne (by omega), ov_up_ne (by omega), ov_up_ne (by omega)]) (fr6 a ca)), (pt_TCg (by show (h3 1 1) = m; omega) (by show (h3 1 3) = pp; omega) (by show ((h3 1 7) + 1) = pp + 1; omega) xl (xd.trans (by omega)) (by omega) (by omega) (by omega) (by rw [← show (h3 1 7) = pp by omega]; exact y22_) rfl (by show (t (h3 1 7)) = t pp; rw [show (h3 1 7) = pp by omega]))⟩
        · skip
          show ov_R u d ov_m26 328 [(0, ov_r 1)] [ov_i (-1), ov_r 1] z2 (ov_up (ov_up h3 1 2 0) 1 5 (t (h3 1 7))) (P_fTape_advance_1 F z h t m q pp)
          have y23_ : ¬ pt_sg (t (h3 1 7)) := y23
          refine ov_iflt (tgt := 335) d_26_328 (by decide) (by omega) (fun c29 => ?_) (fun c29 => ?_)
          · skip
            refine ov_blk (ls2 := [(0, ov_r 1)]) (st2 := [ov_i 1, ov_r 1]) (pc2 := 336) b_26_335_1 rfl rfl ?_
            refine ov_putf (x := 1) d_26_336 fl_Tape_34 (zb_1 I18) (zs_1 I18) rfl nk_0 rfl ?_
            have I30 := up_1_2 (x := 1) I18 (by omega) (hw 1 (by decide +kernel))
            show ov_R u d ov_m26 339 [(0, ov_r 1)] [] z2 (ov_up (ov_up (ov_up h3 1 2 0) 1 5 (t (h3 1 7))) 1 2 1) (P_fTape_advance_1 F z h t m q pp)
            refine ov_blk (ls2 := [(0, ov_r 1)]) (st2 := [ov_r 1, ov_r 1]) (pc2 := 341) b_26_339_2 rfl rfl ?_
            refine ov_getf (v := ov_i (h3 1 7)) d_26_341 fl_Tape_21 (zb_1 I30) (zs_1 I30) rfl ?_
            refine ov_blk (ls2 := [(0, ov_r 1)]) (st2 := [ov_i ((h3 1 7) + 1), ov_r 1]) (pc2 := 346) b_26_344_2 rfl rfl ?_
            refine ov_putf (x := ((h3 1 7) + 1)) d_26_346 fl_Tape_21 (zb_1 I30) (zs_1 I30) rfl nk_0 rfl ?_
            have I32 := up_1_7 (x := ((h3 1 7) + 1)) I30 (by omega) (hw 1 (by decide +kernel))
            show ov_R u d ov_m26 349 [(0, ov_r 1)] [] z2 (ov_up (ov_up (ov_up (ov_up h3 1 2 0) 1 5 (t (h3 1 7))) 1 2 1) 1 7 ((h3 1 7) + 1)) (P_fTape_advance_1 F z h t m q pp)
            exact ov_retv (st := []) d_26_349 rfl ⟨rfl, I32, (fun a ca => Eq.trans (by show (ov_up (ov_up (ov_up (ov_up h3 1 2 0) 1 5 (t (h3 1 7))) 1 2 1) 1 7 ((h3 1 7) + 1)) a = h3 a; rw [ov_up_ne (by omega), ov_up_ne (by omega), ov_up_ne (by omega), ov_up_ne (by omega)]) (fr6 a ca)), (pt_TCn (by show (h3 1 1) = m; omega) (by show (h3 1 3) = pp; omega) (by show ((h3 1 7) + 1) = pp + 1; omega) xl (xd.trans (by omega)) (by omega) (by omega) (by omega) (by rw [← show (h3 1 7) = pp by omega]; exact y23_) rfl)⟩
          · omega
    · skip
      refine ov_blk (ls2 := [(0, ov_r 1)]) (st2 := [ov_r 1, ov_r 1]) (pc2 := 268) b_26_266_2 rfl rfl ?_
      refine ov_getf (v := ov_i (h3 1 7)) d_26_268 fl_Tape_21 (zb_1 I4) (zs_1 I4) rfl ?_
      refine ov_blk (ls2 := [(0, ov_r 1)]) (st2 := [ov_r 1, ov_i (h3 1 7), ov_r 1]) (pc2 := 272) b_26_271_1 rfl rfl ?_
      refine ov_getf (v := ov_i (h3 1 3)) d_26_272 fl_Tape_27 (zb_1 I4) (zs_1 I4) rfl ?_
      refine ov_blk (ls2 := [(0, ov_r 1)]) (st2 := [ov_i 4, ov_i ((h3 1 7) - (h3 1 3)), ov_r 1]) (pc2 := 277) b_26_275_2 rfl rfl ?_
      refine ov_icle (tgt := 284) d_26_277 (by decide) (by omega) (by omega) (fun c35 => ?_) (fun c35 => ?_)
      · skip
        refine ov_blk (ls2 := [(0, ov_r 1)]) (st2 := [ov_i 3, ov_r 1]) (pc2 := 285) b_26_284_1 rfl rfl ?_
        refine ov_putf (x := 3) d_26_285 fl_Tape_34 (zb_1 I4) (zs_1 I4) rfl nk_0 rfl ?_
        have I36 := up_1_2 (x := 3) I4 (by omega) (hw 1 (by decide +kernel))
        show ov_R u d ov_m26 288 [(0, ov_r 1)] [] z2 (ov_up h3 1 2 3) (P_fTape_advance_1 F z h t m q pp)
        exact ov_retv (st := []) d_26_288 rfl ⟨rfl, I36, (fun a ca => Eq.trans (by show (ov_up h3 1 2 3) a = h3 a; rw [ov_up_ne (by omega)]) (fr6 a ca)), (pt_TCd (q := (h3 1 7)) (by show (h3 1 1) = m; omega) (by show (h3 1 3) = pp; omega) rfl xl xd (by omega) (by omega) (by omega) (by omega) (by show 3 = _; rw [if_neg (by omega)]) xn)⟩
      · skip
        refine ov_blk (ls2 := [(0, ov_r 1)]) (st2 := [ov_i 1, ov_r 1]) (pc2 := 281) b_26_280_1 rfl rfl ?_
        refine ov_goto (tgt := 285) d_26_281 (by decide) ?_
        refine ov_putf (x := 1) d_26_285 fl_Tape_34 (zb_1 I4) (zs_1 I4) rfl nk_0 rfl ?_
        have I37 := up_1_2 (x := 1) I4 (by omega) (hw 1 (by decide +kernel))
        show ov_R u d ov_m26 288 [(0, ov_r 1)] [] z2 (ov_up h3 1 2 1) (P_fTape_advance_1 F z h t m q pp)
        exact ov_retv (st := []) d_26_288 rfl ⟨rfl, I37, (fun a ca => Eq.trans (by show (ov_up h3 1 2 1) a = h3 a; rw [ov_up_ne (by omega)]) (fr6 a ca)), (pt_TCd (q := (h3 1 7)) (by show (h3 1 1) = m; omega) (by show (h3 1 3) = pp; omega) rfl xl xd (by omega) (by omega) (by omega) (by omega) (by show 1 = _; rw [if_pos (by omega)]) xn)⟩
  have J38 : ∀ (z39 : ov_Z) (h40 : ov_H) (I41 : ov_I F z39 h40) (E42 : h40 2 = h 2) (fr43 : ∀ a : Int, a ≠ 1 → h40 a = h a) (xl0 : pt_rn pt_lB t m pp = (h40 1 7)) (xw : (h40 1 7) - pp ≤ 8 → (h40 1 6) = pt_wv 256 0 t pp (Int.toNat ((h40 1 7) - pp))) (q44 : (h40 1 1) = m ∧ (h40 1 3) = pp ∧ pp ≤ (h40 1 7) ∧ (h40 1 7) ≤ m ∧ 0 ≤ pp), ov_R u d ov_m26 139 [(0, ov_r 1)] [] z39 h40 (P_fTape_advance_1 F z h t m q pp) := by
    intro z39 h40 I41 E42 fr43 xl0 xw q44
    refine ov_blk (ls2 := [(0, ov_r 1)]) (st2 := [ov_r 1]) (pc2 := 140) b_26_139_1 rfl rfl ?_
    refine ov_getf (v := ov_i (h40 1 7)) d_26_140 fl_Tape_21 (zb_1 I41) (zs_1 I41) rfl ?_
    have g45 := rg_1_7 I41
    refine ov_blk (ls2 := [(0, ov_r 1)]) (st2 := [ov_r 1, ov_i (h40 1 7)]) (pc2 := 144) b_26_143_1 rfl rfl ?_
    refine ov_getf (v := ov_i (h40 1 3)) d_26_144 fl_Tape_27 (zb_1 I41) (zs_1 I41) rfl ?_
    have g46 := rg_1_3 I41
    refine ov_icle (tgt := 174) d_26_147 (by decide) (by omega) (by omega) (fun c47 => ?_) (fun c47 => ?_)
    · skip
      have xl : pt_rn pt_lB t m pp = pp := xl0.trans (by omega)
      refine ov_blk (ls2 := [(0, ov_r 1)]) (st2 := [ov_i 0, ov_r 1]) (pc2 := 176) b_26_174_2 rfl rfl ?_
      refine ov_putf (x := 0) d_26_176 fl_Tape_37 (zb_1 I41) (zs_1 I41) rfl nk_0 rfl ?_
      have I48 := up_1_4 (x := 0) I41 (by omega) (hw 1 (by decide +kernel))
      show ov_R u d ov_m26 179 [(0, ov_r 1)] [] z39 (ov_up h40 1 4 0) (P_fTape_advance_1 F z h t m q pp)
      have L52 : ∀ (n49 : Nat) (z53 : ov_Z) (h54 : ov_H) (I55 : ov_I F z53 h54) (E56 : h54 2 = h 2) (fr57 : ∀ a : Int, a ≠ 1 → h54 a = h a) (ya : pt_rn pt_dB t m (h54 1 7) = pt_rn pt_dB t m pp) (yr : ∀ j : Int, pp ≤ j → j < (h54 1 7) → 48 ≤ t j ∧ t j ≤ 57) (yb : (h54 1 7) - pp ≤ 4 → (h54 1 4) = pt_wv 10 48 t pp (Int.toNat ((h54 1 7) - pp))) (q51 : (h54 1 1) = m ∧ (h54 1 3) = pp ∧ pp ≤ (h54 1 7) ∧ (h54 1 7) ≤ m ∧ 0 ≤ pp), 1000 - (h54 1 7) < (n49 : Int) → ov_R u d ov_m26 179 [(0, ov_r 1)] [] z53 h54 (P_fTape_advance_1 F z h t m q pp) := by
        intro n49
        induction n49 with
        | zero =>
          intro  z53 h54 I55 E56 fr57 ya yr yb q51 hn58
          exact absurd hn58 (by omega)
        | succ n49 ih50 =>
          intro  z53 h54 I55 E56 fr57 ya yr yb q51 hn58
          refine ov_blk (ls2 := [(0, ov_r 1)]) (st2 := [ov_r 1]) (pc2 := 180) b_26_179_1 rfl rfl ?_
          refine ov_getf (v := ov_i (h54 1 7)) d_26_180 fl_Tape_21 (zb_1 I55) (zs_1 I55) rfl ?_
          have g59 := rg_1_7 I55
          refine ov_blk (ls2 := [(0, ov_r 1)]) (st2 := [ov_r 1, ov_i (h54 1 7)]) (pc2 := 184) b_26_183_1 rfl rfl ?_
          refine ov_getf (v := ov_i (h54 1 1)) d_26_184 fl_Tape_17 (zb_1 I55) (zs_1 I55) rfl ?_
          have g60 := rg_1_1 I55
          refine ov_icge (tgt := 255) d_26_187 (by decide) (by omega) (by omega) (fun c61 => ?_) (fun c61 => ?_)
          · skip
            exact J1 _ _ I55 E56 (fun a ca => (fr57 a ca)) xl (ya.symm.trans (pt_dg_e (t := t) (n := m) (p := (h54 1 7)) (by omega))) yb (by show (h54 1 1) = m ∧ (h54 1 3) = pp ∧ pp ≤ (h54 1 7) ∧ (h54 1 7) ≤ m ∧ 0 ≤ pp; omega)
          · skip
            refine ov_blk (ls2 := [(0, ov_r 1)]) (st2 := [ov_r 1]) (pc2 := 191) b_26_190_1 rfl rfl ?_
            refine ov_getf (v := ov_r 2) d_26_191 fl_Tape_9 (zb_1 I55) (zs_1 I55) (congrArg ov_r (rg_1_0 I55)) ?_
            refine ov_blk (ls2 := [(0, ov_r 1)]) (st2 := [ov_r 1, ov_r 2]) (pc2 := 195) b_26_194_1 rfl rfl ?_
            refine ov_getf (v := ov_i (h54 1 7)) d_26_195 fl_Tape_21 (zb_1 I55) (zs_1 I55) rfl ?_
            refine ov_cald d_26_198 (zb_2 I55) (zs_2 I55) (by omega) ?_
            have g64 := ra_2 I55 (h54 1 7)
            have e63 : h54 2 (h54 1 7) = (t (h54 1 7)) := Eq.trans (congrFun (show h54 2 = h 2 from E56) (h54 1 7)) (congrFun et (h54 1 7))
            rw [e63] at g64
            rw [e63]
            show ov_R u d ov_m26 199 [(0, ov_r 1)] [ov_i (t (h54 1 7))] z53 h54 (P_fTape_advance_1 F z h t m q pp)
            refine ov_blk (ls2 := [(0, ov_r 1)]) (st2 := [ov_i 48, ov_i (t (h54 1 7))]) (pc2 := 201) b_26_199_1 rfl rfl ?_
            refine ov_iclt (tgt := 255) d_26_201 (by decide) (by omega) (by omega) (fun c65 => ?_) (fun c65 => ?_)
            · skip
              exact J1 _ _ I55 E56 (fun a ca => (fr57 a ca)) xl (ya.symm.trans (pt_dg_e (t := t) (n := m) (p := (h54 1 7)) (by omega))) yb (by show (h54 1 1) = m ∧ (h54 1 3) = pp ∧ pp ≤ (h54 1 7) ∧ (h54 1 7) ≤ m ∧ 0 ≤ pp; omega)
            · skip
              refine ov_blk (ls2 := [(0, ov_r 1)]) (st2 := [ov_r 1]) (pc2 := 205) b_26_204_1 rfl rfl ?_
              refine ov_getf (v := ov_r 2) d_26_205 fl_Tape_9 (zb_1 I55) (zs_1 I55) (congrArg ov_r (rg_1_0 I55)) ?_
              refine ov_blk (ls2 := [(0, ov_r 1)]) (st2 := [ov_r 1, ov_r 2]) (pc2 := 209) b_26_208_1 rfl rfl ?_
              refine ov_getf (v := ov_i (h54 1 7)) d_26_209 fl_Tape_21 (zb_1 I55) (zs_1 I55) rfl ?_
              refine ov_cald d_26_212 (zb_2 I55) (zs_2 I55) (by omega) ?_
              have g68 := ra_2 I55 (h54 1 7)
              have e67 : h54 2 (h54 1 7) = (t (h54 1 7)) := Eq.trans (congrFun (show h54 2 = h 2 from E56) (h54 1 7)) (congrFun et (h54 1 7))
              rw [e67] at g68
              rw [e67]
              show ov_R u d ov_m26 213 [(0, ov_r 1)] [ov_i (t (h54 1 7))] z53 h54 (P_fTape_advance_1 F z h t m q pp)
              refine ov_blk (ls2 := [(0, ov_r 1)]) (st2 := [ov_i 57, ov_i (t (h54 1 7))]) (pc2 := 215) b_26_213_1 rfl rfl ?_
              refine ov_icgt (tgt := 255) d_26_215 (by decide) (by omega) (by omega) (fun c69 => ?_) (fun c69 => ?_)
              · skip
                exact J1 _ _ I55 E56 (fun a ca => (fr57 a ca)) xl (ya.symm.trans (pt_dg_e (t := t) (n := m) (p := (h54 1 7)) (by omega))) yb (by show (h54 1 1) = m ∧ (h54 1 3) = pp ∧ pp ≤ (h54 1 7) ∧ (h54 1 7) ≤ m ∧ 0 ≤ pp; omega)
              · skip
                refine ov_blk (ls2 := [(0, ov_r 1)]) (st2 := [ov_r 1, ov_r 1]) (pc2 := 220) b_26_218_2 rfl rfl ?_
                refine ov_getf (v := ov_i (h54 1 4)) d_26_220 fl_Tape_37 (zb_1 I55) (zs_1 I55) rfl ?_
                have g70 := rg_1_4 I55
                refine ov_blk (ls2 := [(0, ov_r 1)]) (st2 := [ov_i ((h54 1 4) * 10), ov_r 1]) (pc2 := 226) b_26_223_2 rfl rfl ?_
                refine ov_havw (fun w71 gw71 qw71 => ?_)
                refine ov_blk (ls2 := [(0, ov_r 1)]) (st2 := [ov_r 1, ov_i w71, ov_r 1]) (pc2 := 227) b_26_226_1 rfl rfl ?_
                refine ov_getf (v := ov_r 2) d_26_227 fl_Tape_9 (zb_1 I55) (zs_1 I55) (congrArg ov_r (rg_1_0 I55)) ?_
                refine ov_blk (ls2 := [(0, ov_r 1)]) (st2 := [ov_r 1, ov_r 2, ov_i w71, ov_r 1]) (pc2 := 231) b_26_230_1 rfl rfl ?_
                refine ov_getf (v := ov_i (h54 1 7)) d_26_231 fl_Tape_21 (zb_1 I55) (zs_1 I55) rfl ?_
                refine ov_cald d_26_234 (zb_2 I55) (zs_2 I55) (by omega) ?_
                have g74 := ra_2 I55 (h54 1 7)
                have e73 : h54 2 (h54 1 7) = (t (h54 1 7)) := Eq.trans (congrFun (show h54 2 = h 2 from E56) (h54 1 7)) (congrFun et (h54 1 7))
                rw [e73] at g74
                rw [e73]
                show ov_R u d ov_m26 235 [(0, ov_r 1)] [ov_i (t (h54 1 7)), ov_i w71, ov_r 1] z53 h54 (P_fTape_advance_1 F z h t m q pp)
                refine ov_blk (ls2 := [(0, ov_r 1)]) (st2 := [ov_i (w71 + (t (h54 1 7))), ov_r 1]) (pc2 := 236) b_26_235_1 rfl rfl ?_
                refine ov_havw (fun w75 gw75 qw75 => ?_)
                refine ov_blk (ls2 := [(0, ov_r 1)]) (st2 := [ov_i (w75 - 48), ov_r 1]) (pc2 := 239) b_26_236_2 rfl rfl ?_
                refine ov_havw (fun w76 gw76 qw76 => ?_)
                refine ov_putf (x := w76) d_26_239 fl_Tape_37 (zb_1 I55) (zs_1 I55) rfl nk_0 rfl ?_
                have I77 := up_1_4 (x := w76) I55 (by omega) (hw 1 (by decide +kernel))
                show ov_R u d ov_m26 242 [(0, ov_r 1)] [] z53 (ov_up h54 1 4 w76) (P_fTape_advance_1 F z h t m q pp)
                refine ov_blk (ls2 := [(0, ov_r 1)]) (st2 := [ov_r 1, ov_r 1]) (pc2 := 244) b_26_242_2 rfl rfl ?_
                refine ov_getf (v := ov_i (h54 1 7)) d_26_244 fl_Tape_21 (zb_1 I77) (zs_1 I77) rfl ?_
                refine ov_blk (ls2 := [(0, ov_r 1)]) (st2 := [ov_i ((h54 1 7) + 1), ov_r 1]) (pc2 := 249) b_26_247_2 rfl rfl ?_
                refine ov_putf (x := ((h54 1 7) + 1)) d_26_249 fl_Tape_21 (zb_1 I77) (zs_1 I77) rfl nk_0 rfl ?_
                have I79 := up_1_7 (x := ((h54 1 7) + 1)) I77 (by omega) (hw 1 (by decide +kernel))
                show ov_R u d ov_m26 252 [(0, ov_r 1)] [] z53 (ov_up (ov_up h54 1 4 w76) 1 7 ((h54 1 7) + 1)) (P_fTape_advance_1 F z h t m q pp)
                refine ov_goto (tgt := 179) d_26_252 (by decide) ?_
                exact ih50  _ _ I79 E56 (fun a ca => Eq.trans (by show (ov_up (ov_up h54 1 4 w76) 1 7 ((h54 1 7) + 1)) a = h54 a; rw [ov_up_ne (by omega), ov_up_ne (by omega)]) (fr57 a ca)) (show pt_rn pt_dB t m ((h54 1 7) + 1) = pt_rn pt_dB t m pp from (pt_rn_s (P := pt_dB) (t := t) (n := m) (p := (h54 1 7)) (by omega) (pt_dB_t (by omega))).symm.trans ya) (fun j a b => if e : j = (h54 1 7) then (by rw [e]; omega) else yr j a (by have b2 : j < ((h54 1 7) + 1) := b; omega)) (pt_n_step (p := pp) (x := (h54 1 7)) (by omega) yb yr (by omega) qw71 qw75 qw76) (by show (h54 1 1) = m ∧ (h54 1 3) = pp ∧ pp ≤ ((h54 1 7) + 1) ∧ ((h54 1 7) + 1) ≤ m ∧ 0 ≤ pp; omega) (by show 1000 - ((h54 1 7) + 1) < _; omega)
      exact L52 1001  _ _ I48 E42 (fun a ca => Eq.trans (by show (ov_up h40 1 4 0) a = h40 a; rw [ov_up_ne (by omega)]) (fr43 a ca)) (by show pt_rn pt_dB t m (h40 1 7) = _; rw [show (h40 1 7) = pp by omega]) (fun j a b => by have b2 : j < (h40 1 7) := b; omega) (fun _ => by show 0 = pt_wv 10 48 t pp (Int.toNat ((h40 1 7) - pp)); rw [show Int.toNat ((h40 1 7) - pp) = 0 by omega]; rfl) (by show (h40 1 1) = m ∧ (h40 1 3) = pp ∧ pp ≤ (h40 1 7) ∧ (h40 1 7) ≤ m ∧ 0 ≤ pp; omega) (by show 1000 - (h40 1 7) < _; omega)
    · skip
      refine ov_blk (ls2 := [(0, ov_r 1)]) (st2 := [ov_r 1, ov_r 1]) (pc2 := 152) b_26_150_2 rfl rfl ?_
      refine ov_getf (v := ov_i (h40 1 7)) d_26_152 fl_Tape_21 (zb_1 I41) (zs_1 I41) rfl ?_
      refine ov_blk (ls2 := [(0, ov_r 1)]) (st2 := [ov_r 1, ov_i (h40 1 7), ov_r 1]) (pc2 := 156) b_26_155_1 rfl rfl ?_
      refine ov_getf (v := ov_i (h40 1 3)) d_26_156 fl_Tape_27 (zb_1 I41) (zs_1 I41) rfl ?_
      refine ov_blk (ls2 := [(0, ov_r 1)]) (st2 := [ov_i 8, ov_i ((h40 1 7) - (h40 1 3)), ov_r 1]) (pc2 := 162) b_26_159_2 rfl rfl ?_
      refine ov_icle (tgt := 169) d_26_162 (by decide) (by omega) (by omega) (fun c82 => ?_) (fun c82 => ?_)
      · skip
        refine ov_blk (ls2 := [(0, ov_r 1)]) (st2 := [ov_i 2, ov_r 1]) (pc2 := 170) b_26_169_1 rfl rfl ?_
        refine ov_putf (x := 2) d_26_170 fl_Tape_34 (zb_1 I41) (zs_1 I41) rfl nk_0 rfl ?_
        have I83 := up_1_2 (x := 2) I41 (by omega) (hw 1 (by decide +kernel))
        show ov_R u d ov_m26 173 [(0, ov_r 1)] [] z39 (ov_up h40 1 2 2) (P_fTape_advance_1 F z h t m q pp)
        exact ov_retv (st := []) d_26_173 rfl ⟨rfl, I83, (fun a ca => Eq.trans (by show (ov_up h40 1 2 2) a = h40 a; rw [ov_up_ne (by omega)]) (fr43 a ca)), (pt_TCw (q := (h40 1 7)) (by show (h40 1 1) = m; omega) (by show (h40 1 3) = pp; omega) rfl xl0 (by omega) (by omega) (by omega) (by omega) (by show 2 = _; rw [if_neg (by omega)]) xw)⟩
      · skip
        refine ov_blk (ls2 := [(0, ov_r 1)]) (st2 := [ov_i 1, ov_r 1]) (pc2 := 166) b_26_165_1 rfl rfl ?_
        refine ov_goto (tgt := 170) d_26_166 (by decide) ?_
        refine ov_putf (x := 1) d_26_170 fl_Tape_34 (zb_1 I41) (zs_1 I41) rfl nk_0 rfl ?_
        have I84 := up_1_2 (x := 1) I41 (by omega) (hw 1 (by decide +kernel))
        show ov_R u d ov_m26 173 [(0, ov_r 1)] [] z39 (ov_up h40 1 2 1) (P_fTape_advance_1 F z h t m q pp)
        exact ov_retv (st := []) d_26_173 rfl ⟨rfl, I84, (fun a ca => Eq.trans (by show (ov_up h40 1 2 1) a = h40 a; rw [ov_up_ne (by omega)]) (fr43 a ca)), (pt_TCw (q := (h40 1 7)) (by show (h40 1 1) = m; omega) (by show (h40 1 3) = pp; omega) rfl xl0 (by omega) (by omega) (by omega) (by omega) (by show 1 = _; rw [if_pos (by omega)]) xw)⟩
  have J85 : ∀ (z86 : ov_Z) (h87 : ov_H) (I88 : ov_I F z86 h87) (E89 : h87 2 = h 2) (fr90 : ∀ a : Int, a ≠ 1 → h87 a = h a) (q91 : (h87 1 1) = m ∧ (h87 1 7) = pp ∧ 0 ≤ pp ∧ pp ≤ m), ov_R u d ov_m26 52 [(0, ov_r 1)] [] z86 h87 (P_fTape_advance_1 F z h t m q pp) := by
    intro z86 h87 I88 E89 fr90 q91
    refine ov_blk (ls2 := [(0, ov_r 1)]) (st2 := [ov_r 1, ov_r 1]) (pc2 := 54) b_26_52_2 rfl rfl ?_
    refine ov_getf (v := ov_i (h87 1 7)) d_26_54 fl_Tape_21 (zb_1 I88) (zs_1 I88) rfl ?_
    have g92 := rg_1_7 I88
    refine ov_putf (x := (h87 1 7)) d_26_57 fl_Tape_27 (zb_1 I88) (zs_1 I88) rfl nk_0 rfl ?_
    have I93 := up_1_3 (x := (h87 1 7)) I88 (by omega) (hw 1 (by decide +kernel))
    show ov_R u d ov_m26 60 [(0, ov_r 1)] [] z86 (ov_up h87 1 3 (h87 1 7)) (P_fTape_advance_1 F z h t m q pp)
    refine ov_blk (ls2 := [(0, ov_r 1)]) (st2 := [ov_l 0, ov_r 1]) (pc2 := 62) b_26_60_2 rfl rfl ?_
    refine ov_putf (x := 0) d_26_62 fl_Tape_30 (zb_1 I93) (zs_1 I93) rfl nk_1 rfl ?_
    have I94 := up_1_6 (x := 0) I93 (hw 1 (by decide +kernel))
    show ov_R u d ov_m26 65 [(0, ov_r 1)] [] z86 (ov_up (ov_up h87 1 3 (h87 1 7)) 1 6 0) (P_fTape_advance_1 F z h t m q pp)
    have L98 : ∀ (n95 : Nat) (z99 : ov_Z) (h100 : ov_H) (I101 : ov_I F z99 h100) (E102 : h100 2 = h 2) (fr103 : ∀ a : Int, a ≠ 1 → h100 a = h a) (ya : pt_rn pt_lB t m (h100 1 7) = pt_rn pt_lB t m pp) (yr : ∀ j : Int, pp ≤ j → j < (h100 1 7) → 97 ≤ t j ∧ t j ≤ 122) (yb : (h100 1 7) - pp ≤ 8 → (h100 1 6) = pt_wv 256 0 t pp (Int.toNat ((h100 1 7) - pp))) (q97 : (h100 1 1) = m ∧ (h100 1 3) = pp ∧ pp ≤ (h100 1 7) ∧ (h100 1 7) ≤ m ∧ 0 ≤ pp), 1000 - (h100 1 7) < (n95 : Int) → ov_R u d ov_m26 65 [(0, ov_r 1)] [] z99 h100 (P_fTape_advance_1 F z h t m q pp) := by
      intro n95
      induction n95 with
      | zero =>
        intro  z99 h100 I101 E102 fr103 ya yr yb q97 hn104
        exact absurd hn104 (by omega)
      | succ n95 ih96 =>
        intro  z99 h100 I101 E102 fr103 ya yr yb q97 hn104
        refine ov_blk (ls2 := [(0, ov_r 1)]) (st2 := [ov_r 1]) (pc2 := 66) b_26_65_1 rfl rfl ?_
        refine ov_getf (v := ov_i (h100 1 7)) d_26_66 fl_Tape_21 (zb_1 I101) (zs_1 I101) rfl ?_
        have g105 := rg_1_7 I101
        refine ov_blk (ls2 := [(0, ov_r 1)]) (st2 := [ov_r 1, ov_i (h100 1 7)]) (pc2 := 70) b_26_69_1 rfl rfl ?_
        refine ov_getf (v := ov_i (h100 1 1)) d_26_70 fl_Tape_17 (zb_1 I101) (zs_1 I101) rfl ?_
        have g106 := rg_1_1 I101
        refine ov_icge (tgt := 139) d_26_73 (by decide) (by omega) (by omega) (fun c107 => ?_) (fun c107 => ?_)
        · skip
          exact J38 _ _ I101 E102 (fun a ca => (fr103 a ca)) (ya.symm.trans (pt_lt_e (t := t) (n := m) (p := (h100 1 7)) (by omega))) yb (by show (h100 1 1) = m ∧ (h100 1 3) = pp ∧ pp ≤ (h100 1 7) ∧ (h100 1 7) ≤ m ∧ 0 ≤ pp; omega)
        · skip
          refine ov_blk (ls2 := [(0, ov_r 1)]) (st2 := [ov_r 1]) (pc2 := 77) b_26_76_1 rfl rfl ?_
          refine ov_getf (v := ov_r 2) d_26_77 fl_Tape_9 (zb_1 I101) (zs_1 I101) (congrArg ov_r (rg_1_0 I101)) ?_
          refine ov_blk (ls2 := [(0, ov_r 1)]) (st2 := [ov_r 1, ov_r 2]) (pc2 := 81) b_26_80_1 rfl rfl ?_
          refine ov_getf (v := ov_i (h100 1 7)) d_26_81 fl_Tape_21 (zb_1 I101) (zs_1 I101) rfl ?_
          refine ov_cald d_26_84 (zb_2 I101) (zs_2 I101) (by omega) ?_
          have g110 := ra_2 I101 (h100 1 7)
          have e109 : h100 2 (h100 1 7) = (t (h100 1 7)) := Eq.trans (congrFun (show h100 2 = h 2 from E102) (h100 1 7)) (congrFun et (h100 1 7))
          rw [e109] at g110
          rw [e109]
          show ov_R u d ov_m26 85 [(0, ov_r 1)] [ov_i (t (h100 1 7))] z99 h100 (P_fTape_advance_1 F z h t m q pp)
          refine ov_blk (ls2 := [(0, ov_r 1)]) (st2 := [ov_i 97, ov_i (t (h100 1 7))]) (pc2 := 87) b_26_85_1 rfl rfl ?_
          refine ov_iclt (tgt := 139) d_26_87 (by decide) (by omega) (by omega) (fun c111 => ?_) (fun c111 => ?_)
          · skip
            exact J38 _ _ I101 E102 (fun a ca => (fr103 a ca)) (ya.symm.trans (pt_lt_e (t := t) (n := m) (p := (h100 1 7)) (by omega))) yb (by show (h100 1 1) = m ∧ (h100 1 3) = pp ∧ pp ≤ (h100 1 7) ∧ (h100 1 7) ≤ m ∧ 0 ≤ pp; omega)
          · skip
            refine ov_blk (ls2 := [(0, ov_r 1)]) (st2 := [ov_r 1]) (pc2 := 91) b_26_90_1 rfl rfl ?_
            refine ov_getf (v := ov_r 2) d_26_91 fl_Tape_9 (zb_1 I101) (zs_1 I101) (congrArg ov_r (rg_1_0 I101)) ?_
            refine ov_blk (ls2 := [(0, ov_r 1)]) (st2 := [ov_r 1, ov_r 2]) (pc2 := 95) b_26_94_1 rfl rfl ?_
            refine ov_getf (v := ov_i (h100 1 7)) d_26_95 fl_Tape_21 (zb_1 I101) (zs_1 I101) rfl ?_
            refine ov_cald d_26_98 (zb_2 I101) (zs_2 I101) (by omega) ?_
            have g114 := ra_2 I101 (h100 1 7)
            have e113 : h100 2 (h100 1 7) = (t (h100 1 7)) := Eq.trans (congrFun (show h100 2 = h 2 from E102) (h100 1 7)) (congrFun et (h100 1 7))
            rw [e113] at g114
            rw [e113]
            show ov_R u d ov_m26 99 [(0, ov_r 1)] [ov_i (t (h100 1 7))] z99 h100 (P_fTape_advance_1 F z h t m q pp)
            refine ov_blk (ls2 := [(0, ov_r 1)]) (st2 := [ov_i 122, ov_i (t (h100 1 7))]) (pc2 := 101) b_26_99_1 rfl rfl ?_
            refine ov_icgt (tgt := 139) d_26_101 (by decide) (by omega) (by omega) (fun c115 => ?_) (fun c115 => ?_)
            · skip
              exact J38 _ _ I101 E102 (fun a ca => (fr103 a ca)) (ya.symm.trans (pt_lt_e (t := t) (n := m) (p := (h100 1 7)) (by omega))) yb (by show (h100 1 1) = m ∧ (h100 1 3) = pp ∧ pp ≤ (h100 1 7) ∧ (h100 1 7) ≤ m ∧ 0 ≤ pp; omega)
            · skip
              refine ov_blk (ls2 := [(0, ov_r 1)]) (st2 := [ov_r 1, ov_r 1]) (pc2 := 106) b_26_104_2 rfl rfl ?_
              refine ov_getf (v := ov_l (h100 1 6)) d_26_106 fl_Tape_30 (zb_1 I101) (zs_1 I101) rfl ?_
              refine ov_blk (ls2 := [(0, ov_r 1)]) (st2 := [ov_r 1, ov_l (ov_lshl (h100 1 6) 8), ov_r 1]) (pc2 := 113) b_26_109_3 rfl rfl ?_
              refine ov_getf (v := ov_r 2) d_26_113 fl_Tape_9 (zb_1 I101) (zs_1 I101) (congrArg ov_r (rg_1_0 I101)) ?_
              refine ov_blk (ls2 := [(0, ov_r 1)]) (st2 := [ov_r 1, ov_r 2, ov_l (ov_lshl (h100 1 6) 8), ov_r 1]) (pc2 := 117) b_26_116_1 rfl rfl ?_
              refine ov_getf (v := ov_i (h100 1 7)) d_26_117 fl_Tape_21 (zb_1 I101) (zs_1 I101) rfl ?_
              refine ov_cald d_26_120 (zb_2 I101) (zs_2 I101) (by omega) ?_
              have g118 := ra_2 I101 (h100 1 7)
              have e117 : h100 2 (h100 1 7) = (t (h100 1 7)) := Eq.trans (congrFun (show h100 2 = h 2 from E102) (h100 1 7)) (congrFun et (h100 1 7))
              rw [e117] at g118
              rw [e117]
              show ov_R u d ov_m26 121 [(0, ov_r 1)] [ov_i (t (h100 1 7)), ov_l (ov_lshl (h100 1 6) 8), ov_r 1] z99 h100 (P_fTape_advance_1 F z h t m q pp)
              refine ov_blk (ls2 := [(0, ov_r 1)]) (st2 := [ov_l (ov_lor (ov_lshl (h100 1 6) 8) (ov_w (t (h100 1 7)))), ov_r 1]) (pc2 := 123) b_26_121_2 rfl rfl ?_
              have g119 := ov_wg (t (h100 1 7))
              have g120 := ov_wq (t (h100 1 7))
              refine ov_putf (x := (ov_lor (ov_lshl (h100 1 6) 8) (ov_w (t (h100 1 7))))) d_26_123 fl_Tape_30 (zb_1 I101) (zs_1 I101) rfl nk_1 rfl ?_
              have I121 := up_1_6 (x := (ov_lor (ov_lshl (h100 1 6) 8) (ov_w (t (h100 1 7))))) I101 (hw 1 (by decide +kernel))
              show ov_R u d ov_m26 126 [(0, ov_r 1)] [] z99 (ov_up h100 1 6 (ov_lor (ov_lshl (h100 1 6) 8) (ov_w (t (h100 1 7))))) (P_fTape_advance_1 F z h t m q pp)
              refine ov_blk (ls2 := [(0, ov_r 1)]) (st2 := [ov_r 1, ov_r 1]) (pc2 := 128) b_26_126_2 rfl rfl ?_
              refine ov_getf (v := ov_i (h100 1 7)) d_26_128 fl_Tape_21 (zb_1 I121) (zs_1 I121) rfl ?_
              refine ov_blk (ls2 := [(0, ov_r 1)]) (st2 := [ov_i ((h100 1 7) + 1), ov_r 1]) (pc2 := 133) b_26_131_2 rfl rfl ?_
              refine ov_putf (x := ((h100 1 7) + 1)) d_26_133 fl_Tape_21 (zb_1 I121) (zs_1 I121) rfl nk_0 rfl ?_
              have I123 := up_1_7 (x := ((h100 1 7) + 1)) I121 (by omega) (hw 1 (by decide +kernel))
              show ov_R u d ov_m26 136 [(0, ov_r 1)] [] z99 (ov_up (ov_up h100 1 6 (ov_lor (ov_lshl (h100 1 6) 8) (ov_w (t (h100 1 7))))) 1 7 ((h100 1 7) + 1)) (P_fTape_advance_1 F z h t m q pp)
              refine ov_goto (tgt := 65) d_26_136 (by decide) ?_
              exact ih96  _ _ I123 E102 (fun a ca => Eq.trans (by show (ov_up (ov_up h100 1 6 (ov_lor (ov_lshl (h100 1 6) 8) (ov_w (t (h100 1 7))))) 1 7 ((h100 1 7) + 1)) a = h100 a; rw [ov_up_ne (by omega), ov_up_ne (by omega)]) (fr103 a ca)) (show pt_rn pt_lB t m ((h100 1 7) + 1) = pt_rn pt_lB t m pp from (pt_rn_s (P := pt_lB) (t := t) (n := m) (p := (h100 1 7)) (by omega) (pt_lB_t (by omega))).symm.trans ya) (fun j a b => if e : j = (h100 1 7) then (by rw [e]; omega) else yr j a (by have b2 : j < ((h100 1 7) + 1) := b; omega)) (pt_w_step (p := pp) (x := (h100 1 7)) (by omega) yb yr (by omega)) (by show (h100 1 1) = m ∧ (h100 1 3) = pp ∧ pp ≤ ((h100 1 7) + 1) ∧ ((h100 1 7) + 1) ≤ m ∧ 0 ≤ pp; omega) (by show 1000 - ((h100 1 7) + 1) < _; omega)
    exact L98 1001  _ _ I94 E89 (fun a ca => Eq.trans (by show (ov_up (ov_up h87 1 3 (h87 1 7)) 1 6 0) a = h87 a; rw [ov_up_ne (by omega), ov_up_ne (by omega)]) (fr90 a ca)) (by show pt_rn pt_lB t m (h87 1 7) = _; rw [show (h87 1 7) = pp by omega]) (fun j a b => by have b2 : j < (h87 1 7) := b; omega) (fun _ => by show 0 = pt_wv 256 0 t pp (Int.toNat ((h87 1 7) - pp)); rw [show Int.toNat ((h87 1 7) - pp) = 0 by omega]; rfl) (by show (h87 1 1) = m ∧ (h87 1 7) = pp ∧ pp ≤ (h87 1 7) ∧ (h87 1 7) ≤ m ∧ 0 ≤ pp; omega) (by show 1000 - (h87 1 7) < _; omega)
  have L127 : ∀ (n124 : Nat) (z128 : ov_Z) (h129 : ov_H) (I130 : ov_I F z128 h129) (E131 : h129 2 = h 2) (fr132 : ∀ a : Int, a ≠ 1 → h129 a = h a) (xb : pt_rn pt_bB t m (h129 1 7) = pp) (q126 : (h129 1 1) = m ∧ 0 ≤ (h129 1 7) ∧ (h129 1 7) ≤ m), 1000 - (h129 1 7) < (n124 : Int) → ov_R u d ov_m26 0 [(0, ov_r 1)] [] z128 h129 (P_fTape_advance_1 F z h t m q pp) := by
    intro n124
    induction n124 with
    | zero =>
      intro  z128 h129 I130 E131 fr132 xb q126 hn133
      exact absurd hn133 (by omega)
    | succ n124 ih125 =>
      intro  z128 h129 I130 E131 fr132 xb q126 hn133
      refine ov_blk (ls2 := [(0, ov_r 1)]) (st2 := [ov_r 1]) (pc2 := 1) b_26_0_1 rfl rfl ?_
      refine ov_getf (v := ov_i (h129 1 7)) d_26_1 fl_Tape_21 (zb_1 I130) (zs_1 I130) rfl ?_
      have g134 := rg_1_7 I130
      refine ov_blk (ls2 := [(0, ov_r 1)]) (st2 := [ov_r 1, ov_i (h129 1 7)]) (pc2 := 5) b_26_4_1 rfl rfl ?_
      refine ov_getf (v := ov_i (h129 1 1)) d_26_5 fl_Tape_17 (zb_1 I130) (zs_1 I130) rfl ?_
      have g135 := rg_1_1 I130
      refine ov_icge (tgt := 52) d_26_8 (by decide) (by omega) (by omega) (fun c136 => ?_) (fun c136 => ?_)
      · skip
        have xe : (h129 1 7) = pp := (pt_bl_e (t := t) (n := m) (p := (h129 1 7)) (by omega)).symm.trans xb
        exact J85 _ _ I130 E131 (fun a ca => (fr132 a ca)) (by show (h129 1 1) = m ∧ (h129 1 7) = pp ∧ 0 ≤ pp ∧ pp ≤ m; omega)
      · skip
        refine ov_blk (ls2 := [(0, ov_r 1)]) (st2 := [ov_r 1]) (pc2 := 12) b_26_11_1 rfl rfl ?_
        refine ov_getf (v := ov_r 2) d_26_12 fl_Tape_9 (zb_1 I130) (zs_1 I130) (congrArg ov_r (rg_1_0 I130)) ?_
        refine ov_blk (ls2 := [(0, ov_r 1)]) (st2 := [ov_r 1, ov_r 2]) (pc2 := 16) b_26_15_1 rfl rfl ?_
        refine ov_getf (v := ov_i (h129 1 7)) d_26_16 fl_Tape_21 (zb_1 I130) (zs_1 I130) rfl ?_
        refine ov_cald d_26_19 (zb_2 I130) (zs_2 I130) (by omega) ?_
        have g139 := ra_2 I130 (h129 1 7)
        have e138 : h129 2 (h129 1 7) = (t (h129 1 7)) := Eq.trans (congrFun (show h129 2 = h 2 from E131) (h129 1 7)) (congrFun et (h129 1 7))
        rw [e138] at g139
        rw [e138]
        show ov_R u d ov_m26 20 [(0, ov_r 1)] [ov_i (t (h129 1 7))] z128 h129 (P_fTape_advance_1 F z h t m q pp)
        refine ov_blk (ls2 := [(0, ov_r 1)]) (st2 := [ov_i 10, ov_i (t (h129 1 7))]) (pc2 := 22) b_26_20_1 rfl rfl ?_
        refine ov_iceq (tgt := 39) d_26_22 (by decide) (by omega) (by omega) (fun c140 => ?_) (fun c140 => ?_)
        · skip
          refine ov_blk (ls2 := [(0, ov_r 1)]) (st2 := [ov_r 1, ov_r 1]) (pc2 := 41) b_26_39_2 rfl rfl ?_
          refine ov_getf (v := ov_i (h129 1 7)) d_26_41 fl_Tape_21 (zb_1 I130) (zs_1 I130) rfl ?_
          refine ov_blk (ls2 := [(0, ov_r 1)]) (st2 := [ov_i ((h129 1 7) + 1), ov_r 1]) (pc2 := 46) b_26_44_2 rfl rfl ?_
          refine ov_putf (x := ((h129 1 7) + 1)) d_26_46 fl_Tape_21 (zb_1 I130) (zs_1 I130) rfl nk_0 rfl ?_
          have I142 := up_1_7 (x := ((h129 1 7) + 1)) I130 (by omega) (hw 1 (by decide +kernel))
          show ov_R u d ov_m26 49 [(0, ov_r 1)] [] z128 (ov_up h129 1 7 ((h129 1 7) + 1)) (P_fTape_advance_1 F z h t m q pp)
          refine ov_goto (tgt := 0) d_26_49 (by decide) ?_
          exact ih125  _ _ I142 E131 (fun a ca => Eq.trans (by show (ov_up h129 1 7 ((h129 1 7) + 1)) a = h129 a; rw [ov_up_ne (by omega)]) (fr132 a ca)) (show pt_rn pt_bB t m ((h129 1 7) + 1) = pp from (pt_rn_s (P := pt_bB) (t := t) (n := m) (p := (h129 1 7)) (by omega) (pt_bB_t (by omega))).symm.trans xb) (by show (h129 1 1) = m ∧ 0 ≤ ((h129 1 7) + 1) ∧ ((h129 1 7) + 1) ≤ m; omega) (by show 1000 - ((h129 1 7) + 1) < _; omega)
        · skip
          refine ov_blk (ls2 := [(0, ov_r 1)]) (st2 := [ov_r 1]) (pc2 := 26) b_26_25_1 rfl rfl ?_
          refine ov_getf (v := ov_r 2) d_26_26 fl_Tape_9 (zb_1 I130) (zs_1 I130) (congrArg ov_r (rg_1_0 I130)) ?_
          refine ov_blk (ls2 := [(0, ov_r 1)]) (st2 := [ov_r 1, ov_r 2]) (pc2 := 30) b_26_29_1 rfl rfl ?_
          refine ov_getf (v := ov_i (h129 1 7)) d_26_30 fl_Tape_21 (zb_1 I130) (zs_1 I130) rfl ?_
          refine ov_cald d_26_33 (zb_2 I130) (zs_2 I130) (by omega) ?_
          have g145 := ra_2 I130 (h129 1 7)
          have e144 : h129 2 (h129 1 7) = (t (h129 1 7)) := Eq.trans (congrFun (show h129 2 = h 2 from E131) (h129 1 7)) (congrFun et (h129 1 7))
          rw [e144] at g145
          rw [e144]
          show ov_R u d ov_m26 34 [(0, ov_r 1)] [ov_i (t (h129 1 7))] z128 h129 (P_fTape_advance_1 F z h t m q pp)
          refine ov_blk (ls2 := [(0, ov_r 1)]) (st2 := [ov_i 32, ov_i (t (h129 1 7))]) (pc2 := 36) b_26_34_1 rfl rfl ?_
          refine ov_icne (tgt := 52) d_26_36 (by decide) (by omega) (by omega) (fun c146 => ?_) (fun c146 => ?_)
          · skip
            have xe : (h129 1 7) = pp := (pt_bl_e (t := t) (n := m) (p := (h129 1 7)) (by omega)).symm.trans xb
            exact J85 _ _ I130 E131 (fun a ca => (fr132 a ca)) (by show (h129 1 1) = m ∧ (h129 1 7) = pp ∧ 0 ≤ pp ∧ pp ≤ m; omega)
          · skip
            refine ov_blk (ls2 := [(0, ov_r 1)]) (st2 := [ov_r 1, ov_r 1]) (pc2 := 41) b_26_39_2 rfl rfl ?_
            refine ov_getf (v := ov_i (h129 1 7)) d_26_41 fl_Tape_21 (zb_1 I130) (zs_1 I130) rfl ?_
            refine ov_blk (ls2 := [(0, ov_r 1)]) (st2 := [ov_i ((h129 1 7) + 1), ov_r 1]) (pc2 := 46) b_26_44_2 rfl rfl ?_
            refine ov_putf (x := ((h129 1 7) + 1)) d_26_46 fl_Tape_21 (zb_1 I130) (zs_1 I130) rfl nk_0 rfl ?_
            have I148 := up_1_7 (x := ((h129 1 7) + 1)) I130 (by omega) (hw 1 (by decide +kernel))
            show ov_R u d ov_m26 49 [(0, ov_r 1)] [] z128 (ov_up h129 1 7 ((h129 1 7) + 1)) (P_fTape_advance_1 F z h t m q pp)
            refine ov_goto (tgt := 0) d_26_49 (by decide) ?_
            exact ih125  _ _ I148 E131 (fun a ca => Eq.trans (by show (ov_up h129 1 7 ((h129 1 7) + 1)) a = h129 a; rw [ov_up_ne (by omega)]) (fr132 a ca)) (show pt_rn pt_bB t m ((h129 1 7) + 1) = pp from (pt_rn_s (P := pt_bB) (t := t) (n := m) (p := (h129 1 7)) (by omega) (pt_bB_t (by omega))).symm.trans xb) (by show (h129 1 1) = m ∧ 0 ≤ ((h129 1 7) + 1) ∧ ((h129 1 7) + 1) ≤ m; omega) (by show 1000 - ((h129 1 7) + 1) < _; omega)
  exact L127 1001  _ _ I rfl (fun a ca => rfl) (by show pt_rn pt_bB t m (h 1 7) = pp; rw [p1]; exact ep) (by show (h 1 1) = m ∧ 0 ≤ (h 1 7) ∧ (h 1 7) ≤ m; omega) (by show 1000 - (h 1 7) < _; omega)
theorem c_fTape_advance_1_t {u : ov_U} {F : ov_H} (t : Int → Int) (m p : Int) {z : ov_Z} {h : ov_H} (d : Nat) (hd : 4 ≤ d) (U : ov_cap u) (I : ov_I F z h) (hw : ov_kw 2 F) (et : h 2 = t) (tc : pt_TC t m (h 1) p) : ov_T u d ov_m26 [ov_r 1] z h (P_fTape_advance_1 F z h t m (pt_nx t m p) (pt_nt t m p)) := by
  have b := pt_TC_b tc
  have x := pt_nx_b (t := t) (n := m) (p := p) (by omega)
  exact c_fTape_advance_1 t m (pt_nx t m p) (pt_nt t m p) d hd U I hw (pt_TC_m tc) (pt_TC_x tc) (by omega) et rfl
abbrev P_fTape_begin_1 (F : ov_H) (z : ov_Z) (h : ov_H) (t : Int → Int) (m : Int) : Option ov_V → ov_Z → ov_H → Prop := fun r0 z' h' => r0 = none ∧ ov_I F z' h' ∧ (∀ a : Int, a ≠ 1 → h' a = h a) ∧ (pt_TC t m (h' 1) (pt_rn pt_bB t m 0))
set_option maxHeartbeats 4000000 in
theorem c_fTape_begin_1 {u : ov_U} {F : ov_H} (t : Int → Int) (m : Int) {z : ov_Z} {h : ov_H} (d : Nat) (hd : 5 ≤ d) (U : ov_cap u) (I : ov_I F z h) (hw : ov_kw 2 F) (p0 : (h 1 1) = m) (p1 : 0 ≤ m ∧ m ≤ 1000) (et : (h 2) = t) : ov_T u d ov_m25 [ov_r 1] z h (P_fTape_begin_1 F z h t m) := by
  refine ov_en rfl (Nat.le_of_ble_eq_true rfl) ?_
  show ov_R u d ov_m25 0 [(0, ov_r 1)] [] z h (P_fTape_begin_1 F z h t m)
  refine ov_blk (ls2 := [(0, ov_r 1)]) (st2 := [ov_i 0, ov_r 1]) (pc2 := 2) b_25_0_2 rfl rfl ?_
  refine ov_putf (x := 0) d_25_2 fl_Tape_21 (zb_1 I) (zs_1 I) rfl nk_0 rfl ?_
  have I1 := up_1_7 (x := 0) I (by omega) (hw 1 (by decide +kernel))
  show ov_R u d ov_m25 5 [(0, ov_r 1)] [] z (ov_up h 1 7 0) (P_fTape_begin_1 F z h t m)
  refine ov_blk (ls2 := [(0, ov_r 1)]) (st2 := [ov_r 1]) (pc2 := 6) b_25_5_1 rfl rfl ?_
  refine ov_cV (as := []) (st := []) (d2 := d - 1) d_25_6 lk_Tape_24 rfl (Nat.le_of_ble_eq_true rfl) (c := 8) (zb_1 I1) (zs_1 I1) ⟨by decide, rfl⟩ (by omega) (c_fTape_advance_1 t m 0 (pt_rn pt_bB t m 0) (d - 1) (by omega) U I1 (ov_kws hw (by decide +kernel)) (by show (h 1 1) = m; omega) (by show 0 = (0 : Int); omega) (by show 0 ≤ (0 : Int) ∧ (0 : Int) ≤ m ∧ m ≤ 1000; omega) (show (ov_up h 1 7 0) 2 = t from Eq.trans (show (ov_up h 1 7 0) 2 = h 2 from rfl) et) rfl) ?_
  rintro _ z2 h3 ⟨rfl, I4, y5, y6⟩
  have E7 : h3 2 = h 2 := Eq.trans (y5 2 (by decide)) (show (ov_up h 1 7 0) 2 = h 2 from rfl)
  have fr8 : ∀ a : Int, a ≠ 1 → h3 a = h a := fun a ca => Eq.trans (y5 a (by omega)) (Eq.trans (by show (ov_up h 1 7 0) a = h a; rw [ov_up_ne (by omega)]) rfl)
  have y6_ : pt_TC t m (h3 1) (pt_rn pt_bB t m 0) := y6
  have g9 := pt_TC_b y6_
  show ov_R u d ov_m25 9 [(0, ov_r 1)] [] z2 h3 (P_fTape_begin_1 F z h t m)
  exact ov_retv (st := []) d_25_9 rfl ⟨rfl, I4, (fun a ca => (fr8 a ca)), y6_⟩
abbrev P_fTape_isWord_1 (F : ov_H) (z : ov_Z) (h : ov_H) (t : Int → Int) (m : Int) (p : Int) (w : Int) : Option ov_V → ov_Z → ov_H → Prop := fun r0 z' h' => ∃ r : Int, r0 = some (ov_i r) ∧ z = z' ∧ h = h' ∧ ((r = 0 ∧ (pt_iw t m p w = 0)) ∨ (r = 1 ∧ (pt_iw t m p w = 1 ∧ pt_ty t m p = 2 ∧ pt_w256 t m p = w)))
set_option maxHeartbeats 4000000 in
theorem c_fTape_isWord_1 {u : ov_U} {F : ov_H} (t : Int → Int) (m : Int) (p : Int) {z : ov_Z} {h : ov_H} (d : Nat) (hd : 0 ≤ d) (U : ov_cap u) (I : ov_I F z h) (w : Int) (p0 : -9223372036854775808 ≤ w ∧ w ≤ 9223372036854775807) (tc : pt_TC t m (h 1) p) : ov_T u d ov_m51 [ov_r 1, ov_l w] z h (P_fTape_isWord_1 F z h t m p w) := by
  refine ov_en rfl (Nat.le_of_ble_eq_true rfl) ?_
  show ov_R u d ov_m51 0 [(0, ov_r 1), (1, ov_l w)] [] z h (P_fTape_isWord_1 F z h t m p w)
  have tb := pt_TC_b tc
  refine ov_blk (ls2 := [(0, ov_r 1), (1, ov_l w)]) (st2 := [ov_r 1]) (pc2 := 1) b_51_0_1 rfl rfl ?_
  have e1 : h 1 2 = (pt_ty t m p) := (pt_TC_t tc)
  refine ov_getf (v := ov_i (pt_ty t m p)) d_51_1 fl_Tape_34 (zb_1 I) (zs_1 I) (congrArg ov_i e1) ?_
  have g2 := rg_1_2 I
  rw [e1] at g2
  refine ov_blk (ls2 := [(0, ov_r 1), (1, ov_l w)]) (st2 := [ov_i 2, ov_i (pt_ty t m p)]) (pc2 := 5) b_51_4_1 rfl rfl ?_
  refine ov_icne (tgt := 21) d_51_5 (by decide) (by omega) (by omega) (fun c3 => ?_) (fun c3 => ?_)
  · skip
    refine ov_blk (ls2 := [(0, ov_r 1), (1, ov_l w)]) (st2 := [ov_i 0]) (pc2 := 22) b_51_21_1 rfl rfl ?_
    exact ov_retz (st := []) d_51_22 rfl (by omega) ⟨_, rfl, rfl, rfl, (Or.inl ⟨rfl, (by show pt_iw t m p w = 0; (try unfold pt_iw); (first | (rw [if_pos (by omega)]; omega) | (rw [if_neg (by omega)])))⟩)⟩
  · skip
    refine ov_blk (ls2 := [(0, ov_r 1), (1, ov_l w)]) (st2 := [ov_r 1]) (pc2 := 9) b_51_8_1 rfl rfl ?_
    have e4 : h 1 6 = (pt_w256 t m p) := (pt_TC_w tc (by omega))
    refine ov_getf (v := ov_l (pt_w256 t m p)) d_51_9 fl_Tape_30 (zb_1 I) (zs_1 I) (congrArg ov_l e4) ?_
    refine ov_blk (ls2 := [(0, ov_r 1), (1, ov_l w)]) (st2 := [ov_l w, ov_l (pt_w256 t m p)]) (pc2 := 13) b_51_12_1 rfl rfl ?_
    have gw := pt_w256_b (t := t) (m := m) (p := p) (by omega)
    refine ov_blk (ls2 := [(0, ov_r 1), (1, ov_l w)]) (st2 := [ov_i (ov_lcmp (pt_w256 t m p) w)]) (pc2 := 14) b_51_13_1 rfl rfl ?_
    have g5 := ov_lcg (pt_w256 t m p) w
    have g6 := ov_lcs (a := (pt_w256 t m p)) (b := w) (by omega) (by omega)
    refine ov_ifne (tgt := 21) d_51_14 (by decide) (by omega) (fun c7 => ?_) (fun c7 => ?_)
    · skip
      refine ov_blk (ls2 := [(0, ov_r 1), (1, ov_l w)]) (st2 := [ov_i 0]) (pc2 := 22) b_51_21_1 rfl rfl ?_
      exact ov_retz (st := []) d_51_22 rfl (by omega) ⟨_, rfl, rfl, rfl, (Or.inl ⟨rfl, (by show pt_iw t m p w = 0; (try unfold pt_iw); (first | (rw [if_pos (by omega)]; omega) | (rw [if_neg (by omega)])))⟩)⟩
    · skip
      refine ov_blk (ls2 := [(0, ov_r 1), (1, ov_l w)]) (st2 := [ov_i 1]) (pc2 := 18) b_51_17_1 rfl rfl ?_
      refine ov_goto (tgt := 22) d_51_18 (by decide) ?_
      exact ov_retz (st := []) d_51_22 rfl (by omega) ⟨_, rfl, rfl, rfl, (Or.inr ⟨rfl, (by show pt_iw t m p w = 1 ∧ pt_ty t m p = 2 ∧ pt_w256 t m p = w; (try unfold pt_iw); (first | (rw [if_pos (by omega)]; omega) | (rw [if_neg (by omega)])))⟩)⟩
abbrev P_fTape_isSign_1 (F : ov_H) (z : ov_Z) (h : ov_H) (t : Int → Int) (m : Int) (p : Int) (c : Int) : Option ov_V → ov_Z → ov_H → Prop := fun r0 z' h' => ∃ r : Int, r0 = some (ov_i r) ∧ z = z' ∧ h = h' ∧ ((r = 0 ∧ (pt_is t m p c = 0)) ∨ (r = 1 ∧ (pt_is t m p c = 1 ∧ pt_ty t m p = 4 ∧ t p = c)))
set_option maxHeartbeats 4000000 in
theorem c_fTape_isSign_1 {u : ov_U} {F : ov_H} (t : Int → Int) (m : Int) (p : Int) {z : ov_Z} {h : ov_H} (d : Nat) (hd : 0 ≤ d) (U : ov_cap u) (I : ov_I F z h) (c : Int) (g_c : 0 ≤ c ∧ c ≤ 65535) (tc : pt_TC t m (h 1) p) : ov_T u d ov_m56 [ov_r 1, ov_i c] z h (P_fTape_isSign_1 F z h t m p c) := by
  refine ov_en rfl (Nat.le_of_ble_eq_true rfl) ?_
  show ov_R u d ov_m56 0 [(0, ov_r 1), (1, ov_i c)] [] z h (P_fTape_isSign_1 F z h t m p c)
  have tb := pt_TC_b tc
  refine ov_blk (ls2 := [(0, ov_r 1), (1, ov_i c)]) (st2 := [ov_r 1]) (pc2 := 1) b_56_0_1 rfl rfl ?_
  have e1 : h 1 2 = (pt_ty t m p) := (pt_TC_t tc)
  refine ov_getf (v := ov_i (pt_ty t m p)) d_56_1 fl_Tape_34 (zb_1 I) (zs_1 I) (congrArg ov_i e1) ?_
  have g2 := rg_1_2 I
  rw [e1] at g2
  refine ov_blk (ls2 := [(0, ov_r 1), (1, ov_i c)]) (st2 := [ov_i 4, ov_i (pt_ty t m p)]) (pc2 := 5) b_56_4_1 rfl rfl ?_
  refine ov_icne (tgt := 20) d_56_5 (by decide) (by omega) (by omega) (fun c3 => ?_) (fun c3 => ?_)
  · skip
    refine ov_blk (ls2 := [(0, ov_r 1), (1, ov_i c)]) (st2 := [ov_i 0]) (pc2 := 21) b_56_20_1 rfl rfl ?_
    exact ov_retz (st := []) d_56_21 rfl (by omega) ⟨_, rfl, rfl, rfl, (Or.inl ⟨rfl, (by show pt_is t m p c = 0; (try unfold pt_is); (first | (rw [if_pos (by omega)]; omega) | (rw [if_neg (by omega)])))⟩)⟩
  · skip
    refine ov_blk (ls2 := [(0, ov_r 1), (1, ov_i c)]) (st2 := [ov_r 1]) (pc2 := 9) b_56_8_1 rfl rfl ?_
    have e4 : h 1 5 = (t p) := (pt_TC_s tc (by omega))
    refine ov_getf (v := ov_i (t p)) d_56_9 fl_Tape_40 (zb_1 I) (zs_1 I) (congrArg ov_i e4) ?_
    have g5 := rg_1_5 I
    rw [e4] at g5
    refine ov_blk (ls2 := [(0, ov_r 1), (1, ov_i c)]) (st2 := [ov_i c, ov_i (t p)]) (pc2 := 13) b_56_12_1 rfl rfl ?_
    refine ov_icne (tgt := 20) d_56_13 (by decide) (by omega) (by omega) (fun c6 => ?_) (fun c6 => ?_)
    · skip
      refine ov_blk (ls2 := [(0, ov_r 1), (1, ov_i c)]) (st2 := [ov_i 0]) (pc2 := 21) b_56_20_1 rfl rfl ?_
      exact ov_retz (st := []) d_56_21 rfl (by omega) ⟨_, rfl, rfl, rfl, (Or.inl ⟨rfl, (by show pt_is t m p c = 0; (try unfold pt_is); (first | (rw [if_pos (by omega)]; omega) | (rw [if_neg (by omega)])))⟩)⟩
    · skip
      refine ov_blk (ls2 := [(0, ov_r 1), (1, ov_i c)]) (st2 := [ov_i 1]) (pc2 := 17) b_56_16_1 rfl rfl ?_
      refine ov_goto (tgt := 21) d_56_17 (by decide) ?_
      exact ov_retz (st := []) d_56_21 rfl (by omega) ⟨_, rfl, rfl, rfl, (Or.inr ⟨rfl, (by show pt_is t m p c = 1 ∧ pt_ty t m p = 4 ∧ t p = c; (try unfold pt_is); (first | (rw [if_pos (by omega)]; omega) | (rw [if_neg (by omega)])))⟩)⟩
abbrev P_fTape_clear_1 (F : ov_H) (z : ov_Z) (h : ov_H) : Option ov_V → ov_Z → ov_H → Prop := fun r0 z' h' => r0 = none ∧ ov_I F z' h' ∧ (∀ a : Int, a ≠ 1 → h' a = h a) ∧ ((h' 1 1) = 0)
set_option maxHeartbeats 4000000 in
theorem c_fTape_clear_1 {u : ov_U} {F : ov_H} {z : ov_Z} {h : ov_H} (d : Nat) (hd : 0 ≤ d) (U : ov_cap u) (I : ov_I F z h) (hw : ov_kw 2 F) : ov_T u d ov_m79 [ov_r 1] z h (P_fTape_clear_1 F z h) := by
  refine ov_en rfl (Nat.le_of_ble_eq_true rfl) ?_
  show ov_R u d ov_m79 0 [(0, ov_r 1)] [] z h (P_fTape_clear_1 F z h)
  refine ov_blk (ls2 := [(0, ov_r 1)]) (st2 := [ov_i 0, ov_r 1]) (pc2 := 2) b_79_0_2 rfl rfl ?_
  refine ov_putf (x := 0) d_79_2 fl_Tape_17 (zb_1 I) (zs_1 I) rfl nk_0 rfl ?_
  have I1 := up_1_1 (x := 0) I (by omega) (hw 1 (by decide +kernel))
  show ov_R u d ov_m79 5 [(0, ov_r 1)] [] z (ov_up h 1 1 0) (P_fTape_clear_1 F z h)
  exact ov_retv (st := []) d_79_5 rfl ⟨rfl, I1, (fun a ca => Eq.trans (by show (ov_up h 1 1 0) a = h a; rw [ov_up_ne (by omega)]) rfl), (by show 0 = 0; omega)⟩

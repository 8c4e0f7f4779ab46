theorem b_206_240_2 : ov_ds ov_m206.2.1 240 [.iload_n 3, .i2l] = true := by decide +kernel
theorem b_206_242_2 : ov_ds ov_m206.2.1 242 [.lstore 5, .aload_n 0] = true := by decide +kernel
theorem b_206_199_1 : ov_ds ov_m206.2.1 199 [.i2l] = true := by decide +kernel
theorem b_206_200_1 : ov_ds ov_m206.2.1 200 [.ladd] = true := by decide +kernel
theorem b_206_114_1 : ov_ds ov_m206.2.1 114 [.i2l] = true := by decide +kernel
theorem b_206_115_1 : ov_ds ov_m206.2.1 115 [.ladd] = true := by decide +kernel
abbrev P_fMo_isLetter (F : ov_H × ov_Z) (z : ov_Z) (h : ov_H) (c : Int) : Option ov_V → ov_Z → ov_H → Prop := fun r0 z' h' => ∃ r : Int, r0 = some (ov_i r) ∧ z = z' ∧ h = h' ∧ ((r = 0 ∧ (c < 97 ∨ 122 < c)) ∨ (r = 1 ∧ (97 ≤ c ∧ c ≤ 122)))
set_option maxHeartbeats 4000000 in
theorem c_fMo_isLetter {u : ov_U} {F : ov_H × ov_Z} {z : ov_Z} {h : ov_H} (d : Nat) (hd : 0 ≤ d) (U : ov_cap u) (I : ov_N F z h) (c : Int) (g_c : ov_g c) : ov_T u d ov_m207 [ov_i c] z h (P_fMo_isLetter F z h c) := by
  refine ov_en rfl (Nat.le_of_ble_eq_true rfl) ?_
  show ov_R u d ov_m207 0 [(0, ov_i c)] [] z h (P_fMo_isLetter F z h c)
  refine ov_blk (ls2 := [(0, ov_i c)]) (st2 := [ov_i 97, ov_i c]) (pc2 := 3) b_207_0_2 rfl rfl ?_
  refine ov_iclt (tgt := 16) d_207_3 (by decide) (by omega) (by omega) (fun c1 => ?_) (fun c1 => ?_)
  · skip
    refine ov_blk (ls2 := [(0, ov_i c)]) (st2 := [ov_i 0]) (pc2 := 17) b_207_16_1 rfl rfl ?_
    exact ov_retz (st := []) d_207_17 rfl (by omega) ⟨_, rfl, rfl, rfl, (Or.inl ⟨rfl, (by show c < 97 ∨ 122 < c; omega)⟩)⟩
  · skip
    refine ov_blk (ls2 := [(0, ov_i c)]) (st2 := [ov_i 122, ov_i c]) (pc2 := 9) b_207_6_2 rfl rfl ?_
    refine ov_icgt (tgt := 16) d_207_9 (by decide) (by omega) (by omega) (fun c2 => ?_) (fun c2 => ?_)
    · skip
      refine ov_blk (ls2 := [(0, ov_i c)]) (st2 := [ov_i 0]) (pc2 := 17) b_207_16_1 rfl rfl ?_
      exact ov_retz (st := []) d_207_17 rfl (by omega) ⟨_, rfl, rfl, rfl, (Or.inl ⟨rfl, (by show c < 97 ∨ 122 < c; omega)⟩)⟩
    · skip
      refine ov_blk (ls2 := [(0, ov_i c)]) (st2 := [ov_i 1]) (pc2 := 13) b_207_12_1 rfl rfl ?_
      refine ov_goto (tgt := 17) d_207_13 (by decide) ?_
      exact ov_retz (st := []) d_207_17 rfl (by omega) ⟨_, rfl, rfl, rfl, (Or.inr ⟨rfl, (by show 97 ≤ c ∧ c ≤ 122; omega)⟩)⟩
abbrev P_fMo_isDigit (F : ov_H × ov_Z) (z : ov_Z) (h : ov_H) (c : Int) : Option ov_V → ov_Z → ov_H → Prop := fun r0 z' h' => ∃ r : Int, r0 = some (ov_i r) ∧ z = z' ∧ h = h' ∧ ((r = 0 ∧ (c < 48 ∨ 57 < c)) ∨ (r = 1 ∧ (48 ≤ c ∧ c ≤ 57)))
set_option maxHeartbeats 4000000 in
theorem c_fMo_isDigit {u : ov_U} {F : ov_H × ov_Z} {z : ov_Z} {h : ov_H} (d : Nat) (hd : 0 ≤ d) (U : ov_cap u) (I : ov_N F z h) (c : Int) (g_c : ov_g c) : ov_T u d ov_m209 [ov_i c] z h (P_fMo_isDigit F z h c) := by
  refine ov_en rfl (Nat.le_of_ble_eq_true rfl) ?_
  show ov_R u d ov_m209 0 [(0, ov_i c)] [] z h (P_fMo_isDigit F z h c)
  refine ov_blk (ls2 := [(0, ov_i c)]) (st2 := [ov_i 48, ov_i c]) (pc2 := 3) b_209_0_2 rfl rfl ?_
  refine ov_iclt (tgt := 16) d_209_3 (by decide) (by omega) (by omega) (fun c1 => ?_) (fun c1 => ?_)
  · skip
    refine ov_blk (ls2 := [(0, ov_i c)]) (st2 := [ov_i 0]) (pc2 := 17) b_209_16_1 rfl rfl ?_
    exact ov_retz (st := []) d_209_17 rfl (by omega) ⟨_, rfl, rfl, rfl, (Or.inl ⟨rfl, (by show c < 48 ∨ 57 < c; omega)⟩)⟩
  · skip
    refine ov_blk (ls2 := [(0, ov_i c)]) (st2 := [ov_i 57, ov_i c]) (pc2 := 9) b_209_6_2 rfl rfl ?_
    refine ov_icgt (tgt := 16) d_209_9 (by decide) (by omega) (by omega) (fun c2 => ?_) (fun c2 => ?_)
    · skip
      refine ov_blk (ls2 := [(0, ov_i c)]) (st2 := [ov_i 0]) (pc2 := 17) b_209_16_1 rfl rfl ?_
      exact ov_retz (st := []) d_209_17 rfl (by omega) ⟨_, rfl, rfl, rfl, (Or.inl ⟨rfl, (by show c < 48 ∨ 57 < c; omega)⟩)⟩
    · skip
      refine ov_blk (ls2 := [(0, ov_i c)]) (st2 := [ov_i 1]) (pc2 := 13) b_209_12_1 rfl rfl ?_
      refine ov_goto (tgt := 17) d_209_13 (by decide) ?_
      exact ov_retz (st := []) d_209_17 rfl (by omega) ⟨_, rfl, rfl, rfl, (Or.inr ⟨rfl, (by show 48 ≤ c ∧ c ≤ 57; omega)⟩)⟩
abbrev P_fMo_rank (F : ov_H × ov_Z) (z : ov_Z) (h : ov_H) (c : Int) : Option ov_V → ov_Z → ov_H → Prop := fun r0 z' h' => ∃ r : Int, r0 = some (ov_i r) ∧ z = z' ∧ h = h' ∧ r = (c - 96)
set_option maxHeartbeats 4000000 in
theorem c_fMo_rank {u : ov_U} {F : ov_H × ov_Z} {z : ov_Z} {h : ov_H} (d : Nat) (hd : 1 ≤ d) (U : ov_cap u) (I : ov_N F z h) (c : Int) (g_c : ov_g c) (p0 : 97 ≤ c ∧ c ≤ 122) : ov_T u d ov_m208 [ov_i c] z h (P_fMo_rank F z h c) := by
  refine ov_en rfl (Nat.le_of_ble_eq_true rfl) ?_
  show ov_R u d ov_m208 0 [(0, ov_i c)] [] z h (P_fMo_rank F z h c)
  refine ov_blk (ls2 := [(0, ov_i c)]) (st2 := [ov_i c]) (pc2 := 1) b_208_0_1 rfl rfl ?_
  refine ov_cS (as := [ov_i c]) (st := []) (d2 := d - 1) d_208_1 lk_Mo_154 rfl (Nat.le_of_ble_eq_true rfl) (by omega) (c_fMo_isLetter (d - 1) (by omega) U I c (by omega)) ?_
  rintro _ _ _ ⟨v1, rfl, rfl, rfl, y2⟩
  rcases y2 with ⟨rfl, f3⟩ | ⟨rfl, f4⟩
  · skip
    show ov_R u d ov_m208 4 [(0, ov_i c)] [ov_i 0] z h (P_fMo_rank F z h c)
    have f5 : c < 97 ∨ 122 < c := f3
    clear f3
    refine ov_ifeq (tgt := 14) d_208_4 (by decide) (by omega) (fun c6 => ?_) (fun c6 => ?_)
    · skip
      refine ov_blk (ls2 := [(0, ov_i c)]) (st2 := [ov_i (c - 21)]) (pc2 := 18) b_208_14_3 rfl rfl ?_
      exact ov_reti (st := []) d_208_18 rfl ⟨_, rfl, rfl, rfl, (by show (c - 21) = (c - 96); omega)⟩
    · omega
  · skip
    show ov_R u d ov_m208 4 [(0, ov_i c)] [ov_i 1] z h (P_fMo_rank F z h c)
    have f7 : 97 ≤ c ∧ c ≤ 122 := f4
    clear f4
    refine ov_ifeq (tgt := 14) d_208_4 (by decide) (by omega) (fun c8 => ?_) (fun c8 => ?_)
    · omega
    · skip
      refine ov_blk (ls2 := [(0, ov_i c)]) (st2 := [ov_i (c - 96)]) (pc2 := 11) b_208_7_3 rfl rfl ?_
      refine ov_goto (tgt := 18) d_208_11 (by decide) ?_
      exact ov_reti (st := []) d_208_18 rfl ⟨_, rfl, rfl, rfl, (by show (c - 96) = (c - 96); omega)⟩
abbrev P_fMo_isSignOf (F : ov_H × ov_Z) (z : ov_Z) (h : ov_H) (c : Int) : Option ov_V → ov_Z → ov_H → Prop := fun r0 z' h' => ∃ r : Int, r0 = some (ov_i r) ∧ z = z' ∧ h = h' ∧ ((r = 0 ∧ (¬ pt_sg c)) ∨ (r = 1 ∧ (pt_sg c)))
set_option maxHeartbeats 4000000 in
theorem c_fMo_isSignOf {u : ov_U} {F : ov_H × ov_Z} {z : ov_Z} {h : ov_H} (d : Nat) (hd : 0 ≤ d) (U : ov_cap u) (I : ov_N F z h) (c : Int) (g_c : ov_g c) : ov_T u d ov_m210 [ov_i c] z h (P_fMo_isSignOf F z h c) := by
  refine ov_en rfl (Nat.le_of_ble_eq_true rfl) ?_
  show ov_R u d ov_m210 0 [(0, ov_i c)] [] z h (P_fMo_isSignOf F z h c)
  refine ov_blk (ls2 := [(0, ov_i c)]) (st2 := [ov_i 40, ov_i c]) (pc2 := 3) b_210_0_2 rfl rfl ?_
  refine ov_iceq (tgt := 48) d_210_3 (by decide) (by omega) (by omega) (fun c1 => ?_) (fun c1 => ?_)
  · skip
    refine ov_blk (ls2 := [(0, ov_i c)]) (st2 := [ov_i 1]) (pc2 := 49) b_210_48_1 rfl rfl ?_
    refine ov_goto (tgt := 53) d_210_49 (by decide) ?_
    exact ov_retz (st := []) d_210_53 rfl (by omega) ⟨_, rfl, rfl, rfl, (Or.inr ⟨rfl, (by unfold pt_sg; omega)⟩)⟩
  · skip
    refine ov_blk (ls2 := [(0, ov_i c)]) (st2 := [ov_i 41, ov_i c]) (pc2 := 9) b_210_6_2 rfl rfl ?_
    refine ov_iceq (tgt := 48) d_210_9 (by decide) (by omega) (by omega) (fun c2 => ?_) (fun c2 => ?_)
    · skip
      refine ov_blk (ls2 := [(0, ov_i c)]) (st2 := [ov_i 1]) (pc2 := 49) b_210_48_1 rfl rfl ?_
      refine ov_goto (tgt := 53) d_210_49 (by decide) ?_
      exact ov_retz (st := []) d_210_53 rfl (by omega) ⟨_, rfl, rfl, rfl, (Or.inr ⟨rfl, (by unfold pt_sg; omega)⟩)⟩
    · skip
      refine ov_blk (ls2 := [(0, ov_i c)]) (st2 := [ov_i 59, ov_i c]) (pc2 := 15) b_210_12_2 rfl rfl ?_
      refine ov_iceq (tgt := 48) d_210_15 (by decide) (by omega) (by omega) (fun c3 => ?_) (fun c3 => ?_)
      · skip
        refine ov_blk (ls2 := [(0, ov_i c)]) (st2 := [ov_i 1]) (pc2 := 49) b_210_48_1 rfl rfl ?_
        refine ov_goto (tgt := 53) d_210_49 (by decide) ?_
        exact ov_retz (st := []) d_210_53 rfl (by omega) ⟨_, rfl, rfl, rfl, (Or.inr ⟨rfl, (by unfold pt_sg; omega)⟩)⟩
      · skip
        refine ov_blk (ls2 := [(0, ov_i c)]) (st2 := [ov_i 61, ov_i c]) (pc2 := 21) b_210_18_2 rfl rfl ?_
        refine ov_iceq (tgt := 48) d_210_21 (by decide) (by omega) (by omega) (fun c4 => ?_) (fun c4 => ?_)
        · skip
          refine ov_blk (ls2 := [(0, ov_i c)]) (st2 := [ov_i 1]) (pc2 := 49) b_210_48_1 rfl rfl ?_
          refine ov_goto (tgt := 53) d_210_49 (by decide) ?_
          exact ov_retz (st := []) d_210_53 rfl (by omega) ⟨_, rfl, rfl, rfl, (Or.inr ⟨rfl, (by unfold pt_sg; omega)⟩)⟩
        · skip
          refine ov_blk (ls2 := [(0, ov_i c)]) (st2 := [ov_i 60, ov_i c]) (pc2 := 27) b_210_24_2 rfl rfl ?_
          refine ov_iceq (tgt := 48) d_210_27 (by decide) (by omega) (by omega) (fun c5 => ?_) (fun c5 => ?_)
          · skip
            refine ov_blk (ls2 := [(0, ov_i c)]) (st2 := [ov_i 1]) (pc2 := 49) b_210_48_1 rfl rfl ?_
            refine ov_goto (tgt := 53) d_210_49 (by decide) ?_
            exact ov_retz (st := []) d_210_53 rfl (by omega) ⟨_, rfl, rfl, rfl, (Or.inr ⟨rfl, (by unfold pt_sg; omega)⟩)⟩
          · skip
            refine ov_blk (ls2 := [(0, ov_i c)]) (st2 := [ov_i 43, ov_i c]) (pc2 := 33) b_210_30_2 rfl rfl ?_
            refine ov_iceq (tgt := 48) d_210_33 (by decide) (by omega) (by omega) (fun c6 => ?_) (fun c6 => ?_)
            · skip
              refine ov_blk (ls2 := [(0, ov_i c)]) (st2 := [ov_i 1]) (pc2 := 49) b_210_48_1 rfl rfl ?_
              refine ov_goto (tgt := 53) d_210_49 (by decide) ?_
              exact ov_retz (st := []) d_210_53 rfl (by omega) ⟨_, rfl, rfl, rfl, (Or.inr ⟨rfl, (by unfold pt_sg; omega)⟩)⟩
            · skip
              refine ov_blk (ls2 := [(0, ov_i c)]) (st2 := [ov_i 45, ov_i c]) (pc2 := 39) b_210_36_2 rfl rfl ?_
              refine ov_iceq (tgt := 48) d_210_39 (by decide) (by omega) (by omega) (fun c7 => ?_) (fun c7 => ?_)
              · skip
                refine ov_blk (ls2 := [(0, ov_i c)]) (st2 := [ov_i 1]) (pc2 := 49) b_210_48_1 rfl rfl ?_
                refine ov_goto (tgt := 53) d_210_49 (by decide) ?_
                exact ov_retz (st := []) d_210_53 rfl (by omega) ⟨_, rfl, rfl, rfl, (Or.inr ⟨rfl, (by unfold pt_sg; omega)⟩)⟩
              · skip
                refine ov_blk (ls2 := [(0, ov_i c)]) (st2 := [ov_i 42, ov_i c]) (pc2 := 45) b_210_42_2 rfl rfl ?_
                refine ov_icne (tgt := 52) d_210_45 (by decide) (by omega) (by omega) (fun c8 => ?_) (fun c8 => ?_)
                · skip
                  refine ov_blk (ls2 := [(0, ov_i c)]) (st2 := [ov_i 0]) (pc2 := 53) b_210_52_1 rfl rfl ?_
                  exact ov_retz (st := []) d_210_53 rfl (by omega) ⟨_, rfl, rfl, rfl, (Or.inl ⟨rfl, (fun q => by unfold pt_sg at q; omega)⟩)⟩
                · skip
                  refine ov_blk (ls2 := [(0, ov_i c)]) (st2 := [ov_i 1]) (pc2 := 49) b_210_48_1 rfl rfl ?_
                  refine ov_goto (tgt := 53) d_210_49 (by decide) ?_
                  exact ov_retz (st := []) d_210_53 rfl (by omega) ⟨_, rfl, rfl, rfl, (Or.inr ⟨rfl, (by unfold pt_sg; omega)⟩)⟩
abbrev P_fMo_cutAll_90 (F : ov_H × ov_Z) (z : ov_Z) (h : ov_H) (t : Int → Int) (m : Int) : Option ov_V → ov_Z → ov_H → Prop := fun r0 z' h' => r0 = none ∧ ov_N F z' h' ∧ (∀ a : Int, a ≠ 90 ∧ (a < 92 ∨ 94 < a) → h' a = h a) ∧ ((h' 90 2) = 0 ∧ (h' 90 3) = m ∧ (h' 90 7) = 0 ∧ (h' 90 8) = 0) ∧ (∃ N : Int, pt_MT t m (h' 92) (h' 93) (h' 94) N) ∧ (∀ k : Int, k ≠ 2 → k ≠ 3 → k ≠ 7 → k ≠ 8 → (h' 90) k = (h 90) k)
set_option maxHeartbeats 4000000 in
theorem c_fMo_cutAll_90 {u : ov_U} {F : ov_H × ov_Z} (t : Int → Int) (m : Int) {z : ov_Z} {h : ov_H} (d : Nat) (hd : 2 ≤ d) (U : ov_cap u) (I : ov_N F z h) (p0 : (h 90 2) = m) (p1 : 0 ≤ m ∧ m ≤ 1000) (e91 : (h 91) = t) : ov_T u d ov_m206 [ov_r 90] z h (P_fMo_cutAll_90 F z h t m) := by
  refine ov_en rfl (Nat.le_of_ble_eq_true rfl) ?_
  show ov_R u d ov_m206 0 [(0, ov_r 90)] [] z h (P_fMo_cutAll_90 F z h t m)
  refine ov_blk (ls2 := [(0, ov_r 90)]) (st2 := [ov_r 90, ov_r 90]) (pc2 := 2) b_206_0_2 rfl rfl ?_
  refine ov_getf (v := ov_i (h 90 2)) d_206_2 fl_Mo_11 (zb_90 I) (zs_90 I) rfl ?_
  have g1 := rg_90_2 I
  refine ov_putf (x := (h 90 2)) d_206_5 fl_Mo_158 (zb_90 I) (zs_90 I) rfl nk_0 rfl ?_
  have I2 := up_90_3 (x := (h 90 2)) I (by omega)
  show ov_R u d ov_m206 8 [(0, ov_r 90)] [] z (ov_up h 90 3 (h 90 2)) (P_fMo_cutAll_90 F z h t m)
  refine ov_blk (ls2 := [(0, ov_r 90)]) (st2 := [ov_i 0, ov_r 90]) (pc2 := 10) b_206_8_2 rfl rfl ?_
  refine ov_putf (x := 0) d_206_10 fl_Mo_11 (zb_90 I2) (zs_90 I2) rfl nk_0 rfl ?_
  have I3 := up_90_2 (x := 0) I2 (by omega)
  show ov_R u d ov_m206 13 [(0, ov_r 90)] [] z (ov_up (ov_up h 90 3 (h 90 2)) 90 2 0) (P_fMo_cutAll_90 F z h t m)
  refine ov_blk (ls2 := [(0, ov_r 90), (1, ov_i 0), (2, ov_i 0)]) (st2 := []) (pc2 := 17) b_206_13_4 rfl rfl ?_
  have L7 : ∀ (n4 : Nat) (x1 : Int) (x2 : Int) (z8 : ov_Z) (h9 : ov_H) (I10 : ov_N F z8 h9) (E11 : h9 91 = h 91) (fr12 : ∀ a : Int, a ≠ 90 ∧ (a < 92 ∨ 94 < a) → h9 a = h a) (xm : pt_MP t m (h9 92) (h9 93) (h9 94) x1 x2) (rkl90 : ∀ k : Int, k ≠ 2 → k ≠ 3 → k ≠ 7 → k ≠ 8 → (h9 90) k = h 90 k) (q6 : 0 ≤ x1 ∧ x1 ≤ x2 ∧ x2 ≤ m ∧ (h9 90 3) = m ∧ (h9 90 2) = 0), 1000 - x2 < (n4 : Int) → ov_R u d ov_m206 17 [(0, ov_r 90), (1, ov_i x1), (2, ov_i x2)] [] z8 h9 (P_fMo_cutAll_90 F z h t m) := by
    intro n4
    induction n4 with
    | zero =>
      intro x1 x2 z8 h9 I10 E11 fr12 xm rkl90 q6 hn13
      exact absurd hn13 (by omega)
    | succ n4 ih5 =>
      intro x1 x2 z8 h9 I10 E11 fr12 xm rkl90 q6 hn13
      refine ov_blk (ls2 := [(0, ov_r 90), (1, ov_i x1), (2, ov_i x2)]) (st2 := [ov_r 90, ov_i x2]) (pc2 := 19) b_206_17_2 rfl rfl ?_
      refine ov_getf (v := ov_i (h9 90 3)) d_206_19 fl_Mo_158 (zb_90 I10) (zs_90 I10) rfl ?_
      have g14 := rg_90_3 I10
      refine ov_icge (tgt := 279) d_206_22 (by decide) (by omega) (by omega) (fun c15 => ?_) (fun c15 => ?_)
      · skip
        refine ov_blk (ls2 := [(0, ov_r 90), (1, ov_i x1), (2, ov_i x2)]) (st2 := [ov_r 90]) (pc2 := 280) b_206_279_1 rfl rfl ?_
        refine ov_getf (v := ov_r 92) d_206_280 fl_Mo_24 (zb_90 I10) (zs_90 I10) (congrArg ov_r (rg_90_4 I10)) ?_
        refine ov_blk (ls2 := [(0, ov_r 90), (1, ov_i x1), (2, ov_i x2)]) (st2 := [ov_i 0, ov_i x1, ov_r 92]) (pc2 := 285) b_206_283_2 rfl rfl ?_
        refine ov_iast d_206_285 (zb_92 I10) (zs_92 I10) (by omega) ?_
        have I16 := ua_92 (k := x1) (x := 0) I10 (by omega)
        refine ov_blk (ls2 := [(0, ov_r 90), (1, ov_i x1), (2, ov_i x2)]) (st2 := [ov_r 90]) (pc2 := 287) b_206_286_1 rfl rfl ?_
        refine ov_getf (v := ov_r 93) d_206_287 fl_Mo_27 (zb_90 I16) (zs_90 I16) (congrArg ov_r (rg_90_5 I16)) ?_
        refine ov_blk (ls2 := [(0, ov_r 90), (1, ov_i x1), (2, ov_i x2)]) (st2 := [ov_r 90, ov_i x1, ov_r 93]) (pc2 := 292) b_206_290_2 rfl rfl ?_
        refine ov_getf (v := ov_i (h9 90 3)) d_206_292 fl_Mo_158 (zb_90 I16) (zs_90 I16) rfl ?_
        refine ov_iast d_206_295 (zb_93 I16) (zs_93 I16) (by omega) ?_
        have I18 := ua_93 (k := x1) (x := (h9 90 3)) I16 (by omega)
        refine ov_blk (ls2 := [(0, ov_r 90), (1, ov_i x1), (2, ov_i x2)]) (st2 := [ov_i 0, ov_r 90]) (pc2 := 298) b_206_296_2 rfl rfl ?_
        refine ov_putf (x := 0) d_206_298 fl_Mo_177 (zb_90 I18) (zs_90 I18) rfl nk_0 rfl ?_
        have I19 := up_90_7 (x := 0) I18 (by omega)
        show ov_R u d ov_m206 301 [(0, ov_r 90), (1, ov_i x1), (2, ov_i x2)] [] z8 (ov_up (ov_up (ov_up h9 92 x1 0) 93 x1 (h9 90 3)) 90 7 0) (P_fMo_cutAll_90 F z h t m)
        refine ov_blk (ls2 := [(0, ov_r 90), (1, ov_i x1), (2, ov_i x2)]) (st2 := [ov_i 0, ov_r 90]) (pc2 := 303) b_206_301_2 rfl rfl ?_
        refine ov_putf (x := 0) d_206_303 fl_Mo_180 (zb_90 I19) (zs_90 I19) rfl nk_0 rfl ?_
        have I20 := up_90_8 (x := 0) I19 (by omega)
        show ov_R u d ov_m206 306 [(0, ov_r 90), (1, ov_i x1), (2, ov_i x2)] [] z8 (ov_up (ov_up (ov_up (ov_up h9 92 x1 0) 93 x1 (h9 90 3)) 90 7 0) 90 8 0) (P_fMo_cutAll_90 F z h t m)
        exact ov_retv (st := []) d_206_306 rfl ⟨rfl, I20, (fun a ca => Eq.trans (by show (ov_up (ov_up (ov_up (ov_up h9 92 x1 0) 93 x1 (h9 90 3)) 90 7 0) 90 8 0) a = h9 a; rw [ov_up_ne (by omega), ov_up_ne (by omega), ov_up_ne (by omega), ov_up_ne (by omega)]) (fr12 a ca)), (by show (h9 90 2) = 0 ∧ (h9 90 3) = m ∧ 0 = 0 ∧ 0 = 0; omega), ⟨x1, by rw [show (ov_up (ov_up (ov_up (ov_up h9 92 x1 0) 93 x1 (h9 90 3)) 90 7 0) 90 8 0) 92 = (ov_rs (h9 92) x1 0) from (Eq.trans (show (ov_up (ov_up (ov_up (ov_up h9 92 x1 0) 93 x1 (h9 90 3)) 90 7 0) 90 8 0) 92 = (ov_up (ov_up (ov_up h9 92 x1 0) 93 x1 (h9 90 3)) 90 7 0) 92 from rfl) (Eq.trans (show (ov_up (ov_up (ov_up h9 92 x1 0) 93 x1 (h9 90 3)) 90 7 0) 92 = (ov_up (ov_up h9 92 x1 0) 93 x1 (h9 90 3)) 92 from rfl) (Eq.trans (show (ov_up (ov_up h9 92 x1 0) 93 x1 (h9 90 3)) 92 = (ov_up h9 92 x1 0) 92 from rfl) (Eq.trans (ov_up_row h9 92 x1 0) (congrArg (fun f => ov_rs f x1 0) rfl))))), show (ov_up (ov_up (ov_up (ov_up h9 92 x1 0) 93 x1 (h9 90 3)) 90 7 0) 90 8 0) 93 = (ov_rs (h9 93) x1 (h9 90 3)) from (Eq.trans (show (ov_up (ov_up (ov_up (ov_up h9 92 x1 0) 93 x1 (h9 90 3)) 90 7 0) 90 8 0) 93 = (ov_up (ov_up (ov_up h9 92 x1 0) 93 x1 (h9 90 3)) 90 7 0) 93 from rfl) (Eq.trans (show (ov_up (ov_up (ov_up h9 92 x1 0) 93 x1 (h9 90 3)) 90 7 0) 93 = (ov_up (ov_up h9 92 x1 0) 93 x1 (h9 90 3)) 93 from rfl) (Eq.trans (ov_up_row (ov_up h9 92 x1 0) 93 x1 (h9 90 3)) (congrArg (fun f => ov_rs f x1 (h9 90 3)) (Eq.trans (show (ov_up h9 92 x1 0) 93 = h9 93 from rfl) rfl))))), show (ov_up (ov_up (ov_up (ov_up h9 92 x1 0) 93 x1 (h9 90 3)) 90 7 0) 90 8 0) 94 = h9 94 from rfl, show (h9 90 3) = m by omega]; exact pt_MP_e xm (by omega) (by omega) (by omega)⟩, (fun k n0 n1 n2 n3 => (Eq.trans (by show (ov_up (ov_up (ov_up (ov_up h9 92 x1 0) 93 x1 (h9 90 3)) 90 7 0) 90 8 0) 90 k = h9 90 k; rw [ov_up_j n3, ov_up_j n2, ov_up_ne (by decide), ov_up_ne (by decide)]) (rkl90 k n0 n1 n2 n3)))⟩
      · skip
        refine ov_blk (ls2 := [(0, ov_r 90), (1, ov_i x1), (2, ov_i x2)]) (st2 := [ov_r 90]) (pc2 := 26) b_206_25_1 rfl rfl ?_
        refine ov_getf (v := ov_r 91) d_206_26 fl_Mo_14 (zb_90 I10) (zs_90 I10) (congrArg ov_r (rg_90_1 I10)) ?_
        refine ov_blk (ls2 := [(0, ov_r 90), (1, ov_i x1), (2, ov_i x2)]) (st2 := [ov_i x2, ov_r 91]) (pc2 := 30) b_206_29_1 rfl rfl ?_
        refine ov_iald d_206_30 (zb_91 I10) (zs_91 I10) (by omega) ?_
        have g22 := ra_91 I10 x2
        have e21 : h9 91 x2 = (t x2) := Eq.trans (congrFun (show h9 91 = h 91 from E11) x2) (congrFun e91 x2)
        rw [e21] at g22
        rw [e21]
        show ov_R u d ov_m206 31 [(0, ov_r 90), (1, ov_i x1), (2, ov_i x2)] [ov_i (t x2)] z8 h9 (P_fMo_cutAll_90 F z h t m)
        refine ov_blk (ls2 := [(0, ov_r 90), (1, ov_i x1), (2, ov_i x2), (3, ov_i (t x2))]) (st2 := [ov_i 10, ov_i (t x2)]) (pc2 := 35) b_206_31_3 rfl rfl ?_
        refine ov_iceq (tgt := 44) d_206_35 (by decide) (by omega) (by omega) (fun c23 => ?_) (fun c23 => ?_)
        · skip
          refine ov_blk (ls2 := [(0, ov_r 90), (1, ov_i x1), (2, ov_i (x2 + 1)), (3, ov_i (t x2))]) (st2 := []) (pc2 := 47) b_206_44_1 rfl rfl ?_
          refine ov_goto (tgt := 17) d_206_47 (by decide) ?_
          refine ov_sub (ls2 := [(0, ov_r 90), (1, ov_i x1), (2, ov_i (x2 + 1))]) (List.Sublist.subset (by repeat (first | exact List.Sublist.refl _ | apply List.Sublist.cons_cons | apply List.Sublist.cons))) ?_
          exact ih5 x1 (x2 + 1) _ _ I10 E11 (fun a ca => (fr12 a ca)) (pt_MP_b xm (by omega) (by omega)) (fun k n0 n1 n2 n3 => (rkl90 k n0 n1 n2 n3)) (by show 0 ≤ x1 ∧ x1 ≤ (x2 + 1) ∧ (x2 + 1) ≤ m ∧ (h9 90 3) = m ∧ (h9 90 2) = 0; omega) (by omega)
        · skip
          refine ov_blk (ls2 := [(0, ov_r 90), (1, ov_i x1), (2, ov_i x2), (3, ov_i (t x2))]) (st2 := [ov_i 32, ov_i (t x2)]) (pc2 := 41) b_206_38_2 rfl rfl ?_
          refine ov_icne (tgt := 50) d_206_41 (by decide) (by omega) (by omega) (fun c24 => ?_) (fun c24 => ?_)
          · skip
            refine ov_blk (ls2 := [(0, ov_r 90), (1, ov_i x1), (2, ov_i x2), (3, ov_i (t x2)), (4, ov_i x2), (5, ov_l 0)]) (st2 := [ov_r 90]) (pc2 := 57) b_206_50_5 rfl rfl ?_
            refine ov_getf (v := ov_r 93) d_206_57 fl_Mo_27 (zb_90 I10) (zs_90 I10) (congrArg ov_r (rg_90_5 I10)) ?_
            refine ov_blk (ls2 := [(0, ov_r 90), (1, ov_i x1), (2, ov_i x2), (3, ov_i (t x2)), (4, ov_i x2), (5, ov_l 0)]) (st2 := [ov_i x2, ov_i x1, ov_r 93]) (pc2 := 62) b_206_60_2 rfl rfl ?_
            refine ov_iast d_206_62 (zb_93 I10) (zs_93 I10) (by omega) ?_
            have I25 := ua_93 (k := x1) (x := x2) I10 (by omega)
            refine ov_blk (ls2 := [(0, ov_r 90), (1, ov_i x1), (2, ov_i x2), (3, ov_i (t x2)), (4, ov_i x2), (5, ov_l 0)]) (st2 := [ov_i (t x2)]) (pc2 := 64) b_206_63_1 rfl rfl ?_
            refine ov_cS (as := [ov_i (t x2)]) (st := []) (d2 := d - 1) d_206_64 lk_Mo_154 rfl (Nat.le_of_ble_eq_true rfl) (by omega) (c_fMo_isLetter (d - 1) (by omega) U I25 (t x2) (by omega)) ?_
            rintro _ _ _ ⟨v26, rfl, rfl, rfl, y27⟩
            rcases y27 with ⟨rfl, f28⟩ | ⟨rfl, f29⟩
            · skip
              show ov_R u d ov_m206 67 [(0, ov_r 90), (1, ov_i x1), (2, ov_i x2), (3, ov_i (t x2)), (4, ov_i x2), (5, ov_l 0)] [ov_i 0] z8 (ov_up h9 93 x1 x2) (P_fMo_cutAll_90 F z h t m)
              have f30 : (t x2) < 97 ∨ 122 < (t x2) := f28
              clear f28
              refine ov_ifeq (tgt := 152) d_206_67 (by decide) (by omega) (fun c31 => ?_) (fun c31 => ?_)
              · skip
                refine ov_blk (ls2 := [(0, ov_r 90), (1, ov_i x1), (2, ov_i x2), (3, ov_i (t x2)), (4, ov_i x2), (5, ov_l 0)]) (st2 := [ov_i (t x2)]) (pc2 := 153) b_206_152_1 rfl rfl ?_
                refine ov_cS (as := [ov_i (t x2)]) (st := []) (d2 := d - 1) d_206_153 lk_Mo_167 rfl (Nat.le_of_ble_eq_true rfl) (by omega) (c_fMo_isDigit (d - 1) (by omega) U I25 (t x2) (by omega)) ?_
                rintro _ _ _ ⟨v32, rfl, rfl, rfl, y33⟩
                rcases y33 with ⟨rfl, f34⟩ | ⟨rfl, f35⟩
                · skip
                  show ov_R u d ov_m206 156 [(0, ov_r 90), (1, ov_i x1), (2, ov_i x2), (3, ov_i (t x2)), (4, ov_i x2), (5, ov_l 0)] [ov_i 0] z8 (ov_up h9 93 x1 x2) (P_fMo_cutAll_90 F z h t m)
                  have f36 : (t x2) < 48 ∨ 57 < (t x2) := f34
                  clear f34
                  refine ov_ifeq (tgt := 240) d_206_156 (by decide) (by omega) (fun c37 => ?_) (fun c37 => ?_)
                  · skip
                    have mv := pt_MVs (t := t) (m := m) (p := x2) (v := t x2) (pt_lt_e (t := t) (n := m) (p := x2) (by omega)) (pt_dg_e (t := t) (n := m) (p := x2) (by omega)) (by omega) rfl
                    refine ov_blk (ls2 := [(0, ov_r 90), (1, ov_i x1), (2, ov_i x2), (3, ov_i (t x2)), (4, ov_i x2), (5, ov_l 0)]) (st2 := [ov_l (ov_w (t x2))]) (pc2 := 242) b_206_240_2 rfl rfl ?_
                    have g38 := ov_wg (t x2)
                    have g39 := ov_wq (t x2)
                    rw [ov_wq (t x2) (by omega)]
                    show ov_R u d ov_m206 242 [(0, ov_r 90), (1, ov_i x1), (2, ov_i x2), (3, ov_i (t x2)), (4, ov_i x2), (5, ov_l 0)] [ov_l (t x2)] z8 (ov_up h9 93 x1 x2) (P_fMo_cutAll_90 F z h t m)
                    refine ov_blk (ls2 := [(0, ov_r 90), (1, ov_i x1), (2, ov_i x2), (3, ov_i (t x2)), (4, ov_i x2), (5, ov_l (t x2))]) (st2 := [ov_r 90]) (pc2 := 245) b_206_242_2 rfl rfl ?_
                    refine ov_getf (v := ov_r 92) d_206_245 fl_Mo_24 (zb_90 I25) (zs_90 I25) (congrArg ov_r (rg_90_4 I25)) ?_
                    refine ov_blk (ls2 := [(0, ov_r 90), (1, ov_i x1), (2, ov_i x2), (3, ov_i (t x2)), (4, ov_i x2), (5, ov_l (t x2))]) (st2 := [ov_i (t x2), ov_i x1, ov_r 92]) (pc2 := 250) b_206_248_2 rfl rfl ?_
                    refine ov_cS (as := [ov_i (t x2)]) (st := [ov_i x1, ov_r 92]) (d2 := d - 1) d_206_250 lk_Mo_174 rfl (Nat.le_of_ble_eq_true rfl) (by omega) (c_fMo_isSignOf (d - 1) (by omega) U I25 (t x2) (by omega)) ?_
                    rintro _ _ _ ⟨v40, rfl, rfl, rfl, y41⟩
                    rcases y41 with ⟨rfl, y42⟩ | ⟨rfl, y43⟩
                    · skip
                      show ov_R u d ov_m206 253 [(0, ov_r 90), (1, ov_i x1), (2, ov_i x2), (3, ov_i (t x2)), (4, ov_i x2), (5, ov_l (t x2))] [ov_i 0, ov_i x1, ov_r 92] z8 (ov_up h9 93 x1 x2) (P_fMo_cutAll_90 F z h t m)
                      have y42_ : ¬ pt_sg (t x2) := y42
                      refine ov_ifeq (tgt := 260) d_206_253 (by decide) (by omega) (fun c44 => ?_) (fun c44 => ?_)
                      · skip
                        refine ov_blk (ls2 := [(0, ov_r 90), (1, ov_i x1), (2, ov_i x2), (3, ov_i (t x2)), (4, ov_i x2), (5, ov_l (t x2))]) (st2 := [ov_i 4, ov_i x1, ov_r 92]) (pc2 := 261) b_206_260_1 rfl rfl ?_
                        refine ov_iast d_206_261 (zb_92 I25) (zs_92 I25) (by omega) ?_
                        have I45 := ua_92 (k := x1) (x := 4) I25 (by omega)
                        refine ov_blk (ls2 := [(0, ov_r 90), (1, ov_i x1), (2, ov_i (x2 + 1)), (3, ov_i (t x2)), (4, ov_i x2), (5, ov_l (t x2))]) (st2 := [ov_r 90]) (pc2 := 266) b_206_262_2 rfl rfl ?_
                        refine ov_getf (v := ov_r 94) d_206_266 fl_Mo_30 (zb_90 I45) (zs_90 I45) (congrArg ov_r (rg_90_6 I45)) ?_
                        refine ov_blk (ls2 := [(0, ov_r 90), (1, ov_i x1), (2, ov_i (x2 + 1)), (3, ov_i (t x2)), (4, ov_i x2), (5, ov_l (t x2))]) (st2 := [ov_l (t x2), ov_i x1, ov_r 94]) (pc2 := 272) b_206_269_2 rfl rfl ?_
                        refine ov_last d_206_272 (zb_94 I45) (zs_94 I45) (by omega) ?_
                        have I46 := ua_94 (k := x1) (x := (t x2)) I45 (by omega)
                        refine ov_blk (ls2 := [(0, ov_r 90), (1, ov_i (x1 + 1)), (2, ov_i (x2 + 1)), (3, ov_i (t x2)), (4, ov_i x2), (5, ov_l (t x2))]) (st2 := []) (pc2 := 276) b_206_273_1 rfl rfl ?_
                        have m1 : (4 : Int) = pt_cm (pt_ty t m x2) := (mv.2.2.1 y42_).symm
                        refine ov_goto (tgt := 17) d_206_276 (by decide) ?_
                        refine ov_sub (ls2 := [(0, ov_r 90), (1, ov_i (x1 + 1)), (2, ov_i (x2 + 1))]) (List.Sublist.subset (by repeat (first | exact List.Sublist.refl _ | apply List.Sublist.cons_cons | apply List.Sublist.cons))) ?_
                        exact ih5 (x1 + 1) (x2 + 1) _ _ I46 E11 (fun a ca => Eq.trans (by show (ov_up (ov_up (ov_up h9 93 x1 x2) 92 x1 4) 94 x1 (t x2)) a = h9 a; rw [ov_up_ne (by omega), ov_up_ne (by omega), ov_up_ne (by omega)]) (fr12 a ca)) (by rw [show (ov_up (ov_up (ov_up h9 93 x1 x2) 92 x1 4) 94 x1 (t x2)) 92 = (ov_rs (h9 92) x1 4) from (Eq.trans (show (ov_up (ov_up (ov_up h9 93 x1 x2) 92 x1 4) 94 x1 (t x2)) 92 = (ov_up (ov_up h9 93 x1 x2) 92 x1 4) 92 from rfl) (Eq.trans (ov_up_row (ov_up h9 93 x1 x2) 92 x1 4) (congrArg (fun f => ov_rs f x1 4) (Eq.trans (show (ov_up h9 93 x1 x2) 92 = h9 92 from rfl) rfl)))), show (ov_up (ov_up (ov_up h9 93 x1 x2) 92 x1 4) 94 x1 (t x2)) 93 = (ov_rs (h9 93) x1 x2) from (Eq.trans (show (ov_up (ov_up (ov_up h9 93 x1 x2) 92 x1 4) 94 x1 (t x2)) 93 = (ov_up (ov_up h9 93 x1 x2) 92 x1 4) 93 from rfl) (Eq.trans (show (ov_up (ov_up h9 93 x1 x2) 92 x1 4) 93 = (ov_up h9 93 x1 x2) 93 from rfl) (Eq.trans (ov_up_row h9 93 x1 x2) (congrArg (fun f => ov_rs f x1 x2) rfl)))), show (ov_up (ov_up (ov_up h9 93 x1 x2) 92 x1 4) 94 x1 (t x2)) 94 = (ov_rs (h9 94) x1 (t x2)) from (Eq.trans (ov_up_row (ov_up (ov_up h9 93 x1 x2) 92 x1 4) 94 x1 (t x2)) (congrArg (fun f => ov_rs f x1 (t x2)) (Eq.trans (show (ov_up (ov_up h9 93 x1 x2) 92 x1 4) 94 = (ov_up h9 93 x1 x2) 94 from rfl) (Eq.trans (show (ov_up h9 93 x1 x2) 94 = h9 94 from rfl) rfl))))]; exact pt_MP_s xm (by omega) (by omega) (by omega) m1 mv.1 (by have := mv.2.2.2; omega)) (fun k n0 n1 n2 n3 => (Eq.trans (by show (ov_up (ov_up (ov_up h9 93 x1 x2) 92 x1 4) 94 x1 (t x2)) 90 k = h9 90 k; rw [ov_up_ne (by decide), ov_up_ne (by decide), ov_up_ne (by decide)]) (rkl90 k n0 n1 n2 n3))) (by show 0 ≤ (x1 + 1) ∧ (x1 + 1) ≤ (x2 + 1) ∧ (x2 + 1) ≤ m ∧ (h9 90 3) = m ∧ (h9 90 2) = 0; omega) (by omega)
                      · omega
                    · skip
                      show ov_R u d ov_m206 253 [(0, ov_r 90), (1, ov_i x1), (2, ov_i x2), (3, ov_i (t x2)), (4, ov_i x2), (5, ov_l (t x2))] [ov_i 1, ov_i x1, ov_r 92] z8 (ov_up h9 93 x1 x2) (P_fMo_cutAll_90 F z h t m)
                      have y43_ : pt_sg (t x2) := y43
                      refine ov_ifeq (tgt := 260) d_206_253 (by decide) (by omega) (fun c47 => ?_) (fun c47 => ?_)
                      · omega
                      · skip
                        refine ov_blk (ls2 := [(0, ov_r 90), (1, ov_i x1), (2, ov_i x2), (3, ov_i (t x2)), (4, ov_i x2), (5, ov_l (t x2))]) (st2 := [ov_i 3, ov_i x1, ov_r 92]) (pc2 := 257) b_206_256_1 rfl rfl ?_
                        refine ov_goto (tgt := 261) d_206_257 (by decide) ?_
                        refine ov_iast d_206_261 (zb_92 I25) (zs_92 I25) (by omega) ?_
                        have I48 := ua_92 (k := x1) (x := 3) I25 (by omega)
                        refine ov_blk (ls2 := [(0, ov_r 90), (1, ov_i x1), (2, ov_i (x2 + 1)), (3, ov_i (t x2)), (4, ov_i x2), (5, ov_l (t x2))]) (st2 := [ov_r 90]) (pc2 := 266) b_206_262_2 rfl rfl ?_
                        refine ov_getf (v := ov_r 94) d_206_266 fl_Mo_30 (zb_90 I48) (zs_90 I48) (congrArg ov_r (rg_90_6 I48)) ?_
                        refine ov_blk (ls2 := [(0, ov_r 90), (1, ov_i x1), (2, ov_i (x2 + 1)), (3, ov_i (t x2)), (4, ov_i x2), (5, ov_l (t x2))]) (st2 := [ov_l (t x2), ov_i x1, ov_r 94]) (pc2 := 272) b_206_269_2 rfl rfl ?_
                        refine ov_last d_206_272 (zb_94 I48) (zs_94 I48) (by omega) ?_
                        have I49 := ua_94 (k := x1) (x := (t x2)) I48 (by omega)
                        refine ov_blk (ls2 := [(0, ov_r 90), (1, ov_i (x1 + 1)), (2, ov_i (x2 + 1)), (3, ov_i (t x2)), (4, ov_i x2), (5, ov_l (t x2))]) (st2 := []) (pc2 := 276) b_206_273_1 rfl rfl ?_
                        have m1 : (3 : Int) = pt_cm (pt_ty t m x2) := (mv.2.1 y43_).symm
                        refine ov_goto (tgt := 17) d_206_276 (by decide) ?_
                        refine ov_sub (ls2 := [(0, ov_r 90), (1, ov_i (x1 + 1)), (2, ov_i (x2 + 1))]) (List.Sublist.subset (by repeat (first | exact List.Sublist.refl _ | apply List.Sublist.cons_cons | apply List.Sublist.cons))) ?_
                        exact ih5 (x1 + 1) (x2 + 1) _ _ I49 E11 (fun a ca => Eq.trans (by show (ov_up (ov_up (ov_up h9 93 x1 x2) 92 x1 3) 94 x1 (t x2)) a = h9 a; rw [ov_up_ne (by omega), ov_up_ne (by omega), ov_up_ne (by omega)]) (fr12 a ca)) (by rw [show (ov_up (ov_up (ov_up h9 93 x1 x2) 92 x1 3) 94 x1 (t x2)) 92 = (ov_rs (h9 92) x1 3) from (Eq.trans (show (ov_up (ov_up (ov_up h9 93 x1 x2) 92 x1 3) 94 x1 (t x2)) 92 = (ov_up (ov_up h9 93 x1 x2) 92 x1 3) 92 from rfl) (Eq.trans (ov_up_row (ov_up h9 93 x1 x2) 92 x1 3) (congrArg (fun f => ov_rs f x1 3) (Eq.trans (show (ov_up h9 93 x1 x2) 92 = h9 92 from rfl) rfl)))), show (ov_up (ov_up (ov_up h9 93 x1 x2) 92 x1 3) 94 x1 (t x2)) 93 = (ov_rs (h9 93) x1 x2) from (Eq.trans (show (ov_up (ov_up (ov_up h9 93 x1 x2) 92 x1 3) 94 x1 (t x2)) 93 = (ov_up (ov_up h9 93 x1 x2) 92 x1 3) 93 from rfl) (Eq.trans (show (ov_up (ov_up h9 93 x1 x2) 92 x1 3) 93 = (ov_up h9 93 x1 x2) 93 from rfl) (Eq.trans (ov_up_row h9 93 x1 x2) (congrArg (fun f => ov_rs f x1 x2) rfl)))), show (ov_up (ov_up (ov_up h9 93 x1 x2) 92 x1 3) 94 x1 (t x2)) 94 = (ov_rs (h9 94) x1 (t x2)) from (Eq.trans (ov_up_row (ov_up (ov_up h9 93 x1 x2) 92 x1 3) 94 x1 (t x2)) (congrArg (fun f => ov_rs f x1 (t x2)) (Eq.trans (show (ov_up (ov_up h9 93 x1 x2) 92 x1 3) 94 = (ov_up h9 93 x1 x2) 94 from rfl) (Eq.trans (show (ov_up h9 93 x1 x2) 94 = h9 94 from rfl) rfl))))]; exact pt_MP_s xm (by omega) (by omega) (by omega) m1 mv.1 (by have := mv.2.2.2; omega)) (fun k n0 n1 n2 n3 => (Eq.trans (by show (ov_up (ov_up (ov_up h9 93 x1 x2) 92 x1 3) 94 x1 (t x2)) 90 k = h9 90 k; rw [ov_up_ne (by decide), ov_up_ne (by decide), ov_up_ne (by decide)]) (rkl90 k n0 n1 n2 n3))) (by show 0 ≤ (x1 + 1) ∧ (x1 + 1) ≤ (x2 + 1) ∧ (x2 + 1) ≤ m ∧ (h9 90 3) = m ∧ (h9 90 2) = 0; omega) (by omega)
                  · omega
                · skip
                  show ov_R u d ov_m206 156 [(0, ov_r 90), (1, ov_i x1), (2, ov_i x2), (3, ov_i (t x2)), (4, ov_i x2), (5, ov_l 0)] [ov_i 1] z8 (ov_up h9 93 x1 x2) (P_fMo_cutAll_90 F z h t m)
                  have f50 : 48 ≤ (t x2) ∧ (t x2) ≤ 57 := f35
                  clear f35
                  refine ov_ifeq (tgt := 240) d_206_156 (by decide) (by omega) (fun c51 => ?_) (fun c51 => ?_)
                  · omega
                  · skip
                    have L55 : ∀ (n52 : Nat) (x2_ : Int) (x5 : Int) (ya : pt_rn pt_dB t m x2_ = pt_rn pt_dB t m x2) (yr : ∀ j : Int, x2 ≤ j → j < x2_ → 48 ≤ t j ∧ t j ≤ 57) (yb : x2_ - x2 ≤ 4 → x5 = pt_wv 10 48 t x2 (Int.toNat (x2_ - x2))) (q54 : x2 ≤ x2_ ∧ x2_ ≤ m ∧ -9223372036854775808 ≤ x5 ∧ x5 ≤ 9223372036854775807), 1000 - x2_ < (n52 : Int) → ov_R u d ov_m206 159 [(0, ov_r 90), (1, ov_i x1), (2, ov_i x2_), (3, ov_i (t x2)), (4, ov_i x2), (5, ov_l x5)] [] z8 (ov_up h9 93 x1 x2) (P_fMo_cutAll_90 F z h t m) := by
                      intro n52
                      induction n52 with
                      | zero =>
                        intro x2_ x5 ya yr yb q54 hn56
                        exact absurd hn56 (by omega)
                      | succ n52 ih53 =>
                        intro x2_ x5 ya yr yb q54 hn56
                        refine ov_blk (ls2 := [(0, ov_r 90), (1, ov_i x1), (2, ov_i x2_), (3, ov_i (t x2)), (4, ov_i x2), (5, ov_l x5)]) (st2 := [ov_r 90, ov_i x2_]) (pc2 := 161) b_206_159_2 rfl rfl ?_
                        refine ov_getf (v := ov_i (h9 90 3)) d_206_161 fl_Mo_158 (zb_90 I25) (zs_90 I25) rfl ?_
                        refine ov_icge (tgt := 218) d_206_164 (by decide) (by omega) (by omega) (fun c58 => ?_) (fun c58 => ?_)
                        · skip
                          have hd : pt_rn pt_dB t m x2 = x2_ := ya.symm.trans (pt_dg_e (t := t) (n := m) (p := x2_) (by omega))
                          have hp9 : x2 < x2_ := by have := pt_rn_s (P := pt_dB) (t := t) (n := m) (p := x2) (by omega) (pt_dB_t (by omega)); have b9 := pt_rn_b (P := pt_dB) (t := t) (n := m) (p := x2 + 1); omega
                          have mv := pt_MVd (v := x5) (pt_lt_e (t := t) (n := m) (p := x2) (by omega)) hd hp9 yb
                          refine ov_blk (ls2 := [(0, ov_r 90), (1, ov_i x1), (2, ov_i x2_), (3, ov_i (t x2)), (4, ov_i x2), (5, ov_l x5)]) (st2 := [ov_r 90]) (pc2 := 219) b_206_218_1 rfl rfl ?_
                          refine ov_getf (v := ov_r 92) d_206_219 fl_Mo_24 (zb_90 I25) (zs_90 I25) (congrArg ov_r (rg_90_4 I25)) ?_
                          refine ov_blk (ls2 := [(0, ov_r 90), (1, ov_i x1), (2, ov_i x2_), (3, ov_i (t x2)), (4, ov_i x2), (5, ov_l x5)]) (st2 := [ov_i 4, ov_i (x2_ - x2), ov_i x1, ov_r 92]) (pc2 := 228) b_206_222_5 rfl rfl ?_
                          refine ov_icle (tgt := 235) d_206_228 (by decide) (by omega) (by omega) (fun c59 => ?_) (fun c59 => ?_)
                          · skip
                            refine ov_blk (ls2 := [(0, ov_r 90), (1, ov_i x1), (2, ov_i x2_), (3, ov_i (t x2)), (4, ov_i x2), (5, ov_l x5)]) (st2 := [ov_i 2, ov_i x1, ov_r 92]) (pc2 := 236) b_206_235_1 rfl rfl ?_
                            refine ov_iast d_206_236 (zb_92 I25) (zs_92 I25) (by omega) ?_
                            have I60 := ua_92 (k := x1) (x := 2) I25 (by omega)
                            refine ov_goto (tgt := 265) d_206_237 (by decide) ?_
                            refine ov_blk (ls2 := [(0, ov_r 90), (1, ov_i x1), (2, ov_i x2_), (3, ov_i (t x2)), (4, ov_i x2), (5, ov_l x5)]) (st2 := [ov_r 90]) (pc2 := 266) b_206_265_1 rfl rfl ?_
                            refine ov_getf (v := ov_r 94) d_206_266 fl_Mo_30 (zb_90 I60) (zs_90 I60) (congrArg ov_r (rg_90_6 I60)) ?_
                            refine ov_blk (ls2 := [(0, ov_r 90), (1, ov_i x1), (2, ov_i x2_), (3, ov_i (t x2)), (4, ov_i x2), (5, ov_l x5)]) (st2 := [ov_l x5, ov_i x1, ov_r 94]) (pc2 := 272) b_206_269_2 rfl rfl ?_
                            refine ov_last d_206_272 (zb_94 I60) (zs_94 I60) (by omega) ?_
                            have I61 := ua_94 (k := x1) (x := x5) I60 (by omega)
                            refine ov_blk (ls2 := [(0, ov_r 90), (1, ov_i (x1 + 1)), (2, ov_i x2_), (3, ov_i (t x2)), (4, ov_i x2), (5, ov_l x5)]) (st2 := []) (pc2 := 276) b_206_273_1 rfl rfl ?_
                            have m1 : (2 : Int) = pt_cm (pt_ty t m x2) := by rw [mv.2.1, if_neg (by omega)]
                            refine ov_goto (tgt := 17) d_206_276 (by decide) ?_
                            refine ov_sub (ls2 := [(0, ov_r 90), (1, ov_i (x1 + 1)), (2, ov_i x2_)]) (List.Sublist.subset (by repeat (first | exact List.Sublist.refl _ | apply List.Sublist.cons_cons | apply List.Sublist.cons))) ?_
                            exact ih5 (x1 + 1) x2_ _ _ I61 E11 (fun a ca => Eq.trans (by show (ov_up (ov_up (ov_up h9 93 x1 x2) 92 x1 2) 94 x1 x5) a = h9 a; rw [ov_up_ne (by omega), ov_up_ne (by omega), ov_up_ne (by omega)]) (fr12 a ca)) (by rw [show (ov_up (ov_up (ov_up h9 93 x1 x2) 92 x1 2) 94 x1 x5) 92 = (ov_rs (h9 92) x1 2) from (Eq.trans (show (ov_up (ov_up (ov_up h9 93 x1 x2) 92 x1 2) 94 x1 x5) 92 = (ov_up (ov_up h9 93 x1 x2) 92 x1 2) 92 from rfl) (Eq.trans (ov_up_row (ov_up h9 93 x1 x2) 92 x1 2) (congrArg (fun f => ov_rs f x1 2) (Eq.trans (show (ov_up h9 93 x1 x2) 92 = h9 92 from rfl) rfl)))), show (ov_up (ov_up (ov_up h9 93 x1 x2) 92 x1 2) 94 x1 x5) 93 = (ov_rs (h9 93) x1 x2) from (Eq.trans (show (ov_up (ov_up (ov_up h9 93 x1 x2) 92 x1 2) 94 x1 x5) 93 = (ov_up (ov_up h9 93 x1 x2) 92 x1 2) 93 from rfl) (Eq.trans (show (ov_up (ov_up h9 93 x1 x2) 92 x1 2) 93 = (ov_up h9 93 x1 x2) 93 from rfl) (Eq.trans (ov_up_row h9 93 x1 x2) (congrArg (fun f => ov_rs f x1 x2) rfl)))), show (ov_up (ov_up (ov_up h9 93 x1 x2) 92 x1 2) 94 x1 x5) 94 = (ov_rs (h9 94) x1 x5) from (Eq.trans (ov_up_row (ov_up (ov_up h9 93 x1 x2) 92 x1 2) 94 x1 x5) (congrArg (fun f => ov_rs f x1 x5) (Eq.trans (show (ov_up (ov_up h9 93 x1 x2) 92 x1 2) 94 = (ov_up h9 93 x1 x2) 94 from rfl) (Eq.trans (show (ov_up h9 93 x1 x2) 94 = h9 94 from rfl) rfl))))]; exact pt_MP_s xm (by omega) (by omega) (by omega) m1 mv.1 mv.2.2.symm) (fun k n0 n1 n2 n3 => (Eq.trans (by show (ov_up (ov_up (ov_up h9 93 x1 x2) 92 x1 2) 94 x1 x5) 90 k = h9 90 k; rw [ov_up_ne (by decide), ov_up_ne (by decide), ov_up_ne (by decide)]) (rkl90 k n0 n1 n2 n3))) (by show 0 ≤ (x1 + 1) ∧ (x1 + 1) ≤ x2_ ∧ x2_ ≤ m ∧ (h9 90 3) = m ∧ (h9 90 2) = 0; omega) (by omega)
                          · skip
                            refine ov_blk (ls2 := [(0, ov_r 90), (1, ov_i x1), (2, ov_i x2_), (3, ov_i (t x2)), (4, ov_i x2), (5, ov_l x5)]) (st2 := [ov_i 4, ov_i x1, ov_r 92]) (pc2 := 232) b_206_231_1 rfl rfl ?_
                            refine ov_goto (tgt := 236) d_206_232 (by decide) ?_
                            refine ov_iast d_206_236 (zb_92 I25) (zs_92 I25) (by omega) ?_
                            have I62 := ua_92 (k := x1) (x := 4) I25 (by omega)
                            refine ov_goto (tgt := 265) d_206_237 (by decide) ?_
                            refine ov_blk (ls2 := [(0, ov_r 90), (1, ov_i x1), (2, ov_i x2_), (3, ov_i (t x2)), (4, ov_i x2), (5, ov_l x5)]) (st2 := [ov_r 90]) (pc2 := 266) b_206_265_1 rfl rfl ?_
                            refine ov_getf (v := ov_r 94) d_206_266 fl_Mo_30 (zb_90 I62) (zs_90 I62) (congrArg ov_r (rg_90_6 I62)) ?_
                            refine ov_blk (ls2 := [(0, ov_r 90), (1, ov_i x1), (2, ov_i x2_), (3, ov_i (t x2)), (4, ov_i x2), (5, ov_l x5)]) (st2 := [ov_l x5, ov_i x1, ov_r 94]) (pc2 := 272) b_206_269_2 rfl rfl ?_
                            refine ov_last d_206_272 (zb_94 I62) (zs_94 I62) (by omega) ?_
                            have I63 := ua_94 (k := x1) (x := x5) I62 (by omega)
                            refine ov_blk (ls2 := [(0, ov_r 90), (1, ov_i (x1 + 1)), (2, ov_i x2_), (3, ov_i (t x2)), (4, ov_i x2), (5, ov_l x5)]) (st2 := []) (pc2 := 276) b_206_273_1 rfl rfl ?_
                            have m1 : (4 : Int) = pt_cm (pt_ty t m x2) := by rw [mv.2.1, if_pos (by omega)]
                            refine ov_goto (tgt := 17) d_206_276 (by decide) ?_
                            refine ov_sub (ls2 := [(0, ov_r 90), (1, ov_i (x1 + 1)), (2, ov_i x2_)]) (List.Sublist.subset (by repeat (first | exact List.Sublist.refl _ | apply List.Sublist.cons_cons | apply List.Sublist.cons))) ?_
                            exact ih5 (x1 + 1) x2_ _ _ I63 E11 (fun a ca => Eq.trans (by show (ov_up (ov_up (ov_up h9 93 x1 x2) 92 x1 4) 94 x1 x5) a = h9 a; rw [ov_up_ne (by omega), ov_up_ne (by omega), ov_up_ne (by omega)]) (fr12 a ca)) (by rw [show (ov_up (ov_up (ov_up h9 93 x1 x2) 92 x1 4) 94 x1 x5) 92 = (ov_rs (h9 92) x1 4) from (Eq.trans (show (ov_up (ov_up (ov_up h9 93 x1 x2) 92 x1 4) 94 x1 x5) 92 = (ov_up (ov_up h9 93 x1 x2) 92 x1 4) 92 from rfl) (Eq.trans (ov_up_row (ov_up h9 93 x1 x2) 92 x1 4) (congrArg (fun f => ov_rs f x1 4) (Eq.trans (show (ov_up h9 93 x1 x2) 92 = h9 92 from rfl) rfl)))), show (ov_up (ov_up (ov_up h9 93 x1 x2) 92 x1 4) 94 x1 x5) 93 = (ov_rs (h9 93) x1 x2) from (Eq.trans (show (ov_up (ov_up (ov_up h9 93 x1 x2) 92 x1 4) 94 x1 x5) 93 = (ov_up (ov_up h9 93 x1 x2) 92 x1 4) 93 from rfl) (Eq.trans (show (ov_up (ov_up h9 93 x1 x2) 92 x1 4) 93 = (ov_up h9 93 x1 x2) 93 from rfl) (Eq.trans (ov_up_row h9 93 x1 x2) (congrArg (fun f => ov_rs f x1 x2) rfl)))), show (ov_up (ov_up (ov_up h9 93 x1 x2) 92 x1 4) 94 x1 x5) 94 = (ov_rs (h9 94) x1 x5) from (Eq.trans (ov_up_row (ov_up (ov_up h9 93 x1 x2) 92 x1 4) 94 x1 x5) (congrArg (fun f => ov_rs f x1 x5) (Eq.trans (show (ov_up (ov_up h9 93 x1 x2) 92 x1 4) 94 = (ov_up h9 93 x1 x2) 94 from rfl) (Eq.trans (show (ov_up h9 93 x1 x2) 94 = h9 94 from rfl) rfl))))]; exact pt_MP_s xm (by omega) (by omega) (by omega) m1 mv.1 mv.2.2.symm) (fun k n0 n1 n2 n3 => (Eq.trans (by show (ov_up (ov_up (ov_up h9 93 x1 x2) 92 x1 4) 94 x1 x5) 90 k = h9 90 k; rw [ov_up_ne (by decide), ov_up_ne (by decide), ov_up_ne (by decide)]) (rkl90 k n0 n1 n2 n3))) (by show 0 ≤ (x1 + 1) ∧ (x1 + 1) ≤ x2_ ∧ x2_ ≤ m ∧ (h9 90 3) = m ∧ (h9 90 2) = 0; omega) (by omega)
                        · skip
                          refine ov_blk (ls2 := [(0, ov_r 90), (1, ov_i x1), (2, ov_i x2_), (3, ov_i (t x2)), (4, ov_i x2), (5, ov_l x5)]) (st2 := [ov_r 90]) (pc2 := 168) b_206_167_1 rfl rfl ?_
                          refine ov_getf (v := ov_r 91) d_206_168 fl_Mo_14 (zb_90 I25) (zs_90 I25) (congrArg ov_r (rg_90_1 I25)) ?_
                          refine ov_blk (ls2 := [(0, ov_r 90), (1, ov_i x1), (2, ov_i x2_), (3, ov_i (t x2)), (4, ov_i x2), (5, ov_l x5)]) (st2 := [ov_i x2_, ov_r 91]) (pc2 := 172) b_206_171_1 rfl rfl ?_
                          refine ov_iald d_206_172 (zb_91 I25) (zs_91 I25) (by omega) ?_
                          have g65 := ra_91 I25 x2_
                          have e64 : (ov_up h9 93 x1 x2) 91 x2_ = (t x2_) := Eq.trans (congrFun (show (ov_up h9 93 x1 x2) 91 = h 91 from E11) x2_) (congrFun e91 x2_)
                          rw [e64] at g65
                          show ov_R u d ov_m206 173 [(0, ov_r 90), (1, ov_i x1), (2, ov_i x2_), (3, ov_i (t x2)), (4, ov_i x2), (5, ov_l x5)] [ov_i ((ov_up h9 93 x1 x2) 91 x2_)] z8 (ov_up h9 93 x1 x2) (P_fMo_cutAll_90 F z h t m)
                          rw [e64]
                          show ov_R u d ov_m206 173 [(0, ov_r 90), (1, ov_i x1), (2, ov_i x2_), (3, ov_i (t x2)), (4, ov_i x2), (5, ov_l x5)] [ov_i (t x2_)] z8 (ov_up h9 93 x1 x2) (P_fMo_cutAll_90 F z h t m)
                          refine ov_cS (as := [ov_i (t x2_)]) (st := []) (d2 := d - 1) d_206_173 lk_Mo_167 rfl (Nat.le_of_ble_eq_true rfl) (by omega) (c_fMo_isDigit (d - 1) (by omega) U I25 (t x2_) (by omega)) ?_
                          rintro _ _ _ ⟨v66, rfl, rfl, rfl, y67⟩
                          rcases y67 with ⟨rfl, f68⟩ | ⟨rfl, f69⟩
                          · skip
                            show ov_R u d ov_m206 176 [(0, ov_r 90), (1, ov_i x1), (2, ov_i x2_), (3, ov_i (t x2)), (4, ov_i x2), (5, ov_l x5)] [ov_i 0] z8 (ov_up h9 93 x1 x2) (P_fMo_cutAll_90 F z h t m)
                            have f70 : (t x2_) < 48 ∨ 57 < (t x2_) := f68
                            clear f68
                            refine ov_ifeq (tgt := 218) d_206_176 (by decide) (by omega) (fun c71 => ?_) (fun c71 => ?_)
                            · skip
                              have hd : pt_rn pt_dB t m x2 = x2_ := ya.symm.trans (pt_dg_e (t := t) (n := m) (p := x2_) (by omega))
                              have hp9 : x2 < x2_ := by have := pt_rn_s (P := pt_dB) (t := t) (n := m) (p := x2) (by omega) (pt_dB_t (by omega)); have b9 := pt_rn_b (P := pt_dB) (t := t) (n := m) (p := x2 + 1); omega
                              have mv := pt_MVd (v := x5) (pt_lt_e (t := t) (n := m) (p := x2) (by omega)) hd hp9 yb
                              refine ov_blk (ls2 := [(0, ov_r 90), (1, ov_i x1), (2, ov_i x2_), (3, ov_i (t x2)), (4, ov_i x2), (5, ov_l x5)]) (st2 := [ov_r 90]) (pc2 := 219) b_206_218_1 rfl rfl ?_
                              refine ov_getf (v := ov_r 92) d_206_219 fl_Mo_24 (zb_90 I25) (zs_90 I25) (congrArg ov_r (rg_90_4 I25)) ?_
                              refine ov_blk (ls2 := [(0, ov_r 90), (1, ov_i x1), (2, ov_i x2_), (3, ov_i (t x2)), (4, ov_i x2), (5, ov_l x5)]) (st2 := [ov_i 4, ov_i (x2_ - x2), ov_i x1, ov_r 92]) (pc2 := 228) b_206_222_5 rfl rfl ?_
                              refine ov_icle (tgt := 235) d_206_228 (by decide) (by omega) (by omega) (fun c72 => ?_) (fun c72 => ?_)
                              · skip
                                refine ov_blk (ls2 := [(0, ov_r 90), (1, ov_i x1), (2, ov_i x2_), (3, ov_i (t x2)), (4, ov_i x2), (5, ov_l x5)]) (st2 := [ov_i 2, ov_i x1, ov_r 92]) (pc2 := 236) b_206_235_1 rfl rfl ?_
                                refine ov_iast d_206_236 (zb_92 I25) (zs_92 I25) (by omega) ?_
                                have I73 := ua_92 (k := x1) (x := 2) I25 (by omega)
                                refine ov_goto (tgt := 265) d_206_237 (by decide) ?_
                                refine ov_blk (ls2 := [(0, ov_r 90), (1, ov_i x1), (2, ov_i x2_), (3, ov_i (t x2)), (4, ov_i x2), (5, ov_l x5)]) (st2 := [ov_r 90]) (pc2 := 266) b_206_265_1 rfl rfl ?_
                                refine ov_getf (v := ov_r 94) d_206_266 fl_Mo_30 (zb_90 I73) (zs_90 I73) (congrArg ov_r (rg_90_6 I73)) ?_
                                refine ov_blk (ls2 := [(0, ov_r 90), (1, ov_i x1), (2, ov_i x2_), (3, ov_i (t x2)), (4, ov_i x2), (5, ov_l x5)]) (st2 := [ov_l x5, ov_i x1, ov_r 94]) (pc2 := 272) b_206_269_2 rfl rfl ?_
                                refine ov_last d_206_272 (zb_94 I73) (zs_94 I73) (by omega) ?_
                                have I74 := ua_94 (k := x1) (x := x5) I73 (by omega)
                                refine ov_blk (ls2 := [(0, ov_r 90), (1, ov_i (x1 + 1)), (2, ov_i x2_), (3, ov_i (t x2)), (4, ov_i x2), (5, ov_l x5)]) (st2 := []) (pc2 := 276) b_206_273_1 rfl rfl ?_
                                have m1 : (2 : Int) = pt_cm (pt_ty t m x2) := by rw [mv.2.1, if_neg (by omega)]
                                refine ov_goto (tgt := 17) d_206_276 (by decide) ?_
                                refine ov_sub (ls2 := [(0, ov_r 90), (1, ov_i (x1 + 1)), (2, ov_i x2_)]) (List.Sublist.subset (by repeat (first | exact List.Sublist.refl _ | apply List.Sublist.cons_cons | apply List.Sublist.cons))) ?_
                                exact ih5 (x1 + 1) x2_ _ _ I74 E11 (fun a ca => Eq.trans (by show (ov_up (ov_up (ov_up h9 93 x1 x2) 92 x1 2) 94 x1 x5) a = h9 a; rw [ov_up_ne (by omega), ov_up_ne (by omega), ov_up_ne (by omega)]) (fr12 a ca)) (by rw [show (ov_up (ov_up (ov_up h9 93 x1 x2) 92 x1 2) 94 x1 x5) 92 = (ov_rs (h9 92) x1 2) from (Eq.trans (show (ov_up (ov_up (ov_up h9 93 x1 x2) 92 x1 2) 94 x1 x5) 92 = (ov_up (ov_up h9 93 x1 x2) 92 x1 2) 92 from rfl) (Eq.trans (ov_up_row (ov_up h9 93 x1 x2) 92 x1 2) (congrArg (fun f => ov_rs f x1 2) (Eq.trans (show (ov_up h9 93 x1 x2) 92 = h9 92 from rfl) rfl)))), show (ov_up (ov_up (ov_up h9 93 x1 x2) 92 x1 2) 94 x1 x5) 93 = (ov_rs (h9 93) x1 x2) from (Eq.trans (show (ov_up (ov_up (ov_up h9 93 x1 x2) 92 x1 2) 94 x1 x5) 93 = (ov_up (ov_up h9 93 x1 x2) 92 x1 2) 93 from rfl) (Eq.trans (show (ov_up (ov_up h9 93 x1 x2) 92 x1 2) 93 = (ov_up h9 93 x1 x2) 93 from rfl) (Eq.trans (ov_up_row h9 93 x1 x2) (congrArg (fun f => ov_rs f x1 x2) rfl)))), show (ov_up (ov_up (ov_up h9 93 x1 x2) 92 x1 2) 94 x1 x5) 94 = (ov_rs (h9 94) x1 x5) from (Eq.trans (ov_up_row (ov_up (ov_up h9 93 x1 x2) 92 x1 2) 94 x1 x5) (congrArg (fun f => ov_rs f x1 x5) (Eq.trans (show (ov_up (ov_up h9 93 x1 x2) 92 x1 2) 94 = (ov_up h9 93 x1 x2) 94 from rfl) (Eq.trans (show (ov_up h9 93 x1 x2) 94 = h9 94 from rfl) rfl))))]; exact pt_MP_s xm (by omega) (by omega) (by omega) m1 mv.1 mv.2.2.symm) (fun k n0 n1 n2 n3 => (Eq.trans (by show (ov_up (ov_up (ov_up h9 93 x1 x2) 92 x1 2) 94 x1 x5) 90 k = h9 90 k; rw [ov_up_ne (by decide), ov_up_ne (by decide), ov_up_ne (by decide)]) (rkl90 k n0 n1 n2 n3))) (by show 0 ≤ (x1 + 1) ∧ (x1 + 1) ≤ x2_ ∧ x2_ ≤ m ∧ (h9 90 3) = m ∧ (h9 90 2) = 0; omega) (by omega)
                              · skip
                                refine ov_blk (ls2 := [(0, ov_r 90), (1, ov_i x1), (2, ov_i x2_), (3, ov_i (t x2)), (4, ov_i x2), (5, ov_l x5)]) (st2 := [ov_i 4, ov_i x1, ov_r 92]) (pc2 := 232) b_206_231_1 rfl rfl ?_
                                refine ov_goto (tgt := 236) d_206_232 (by decide) ?_
                                refine ov_iast d_206_236 (zb_92 I25) (zs_92 I25) (by omega) ?_
                                have I75 := ua_92 (k := x1) (x := 4) I25 (by omega)
                                refine ov_goto (tgt := 265) d_206_237 (by decide) ?_
                                refine ov_blk (ls2 := [(0, ov_r 90), (1, ov_i x1), (2, ov_i x2_), (3, ov_i (t x2)), (4, ov_i x2), (5, ov_l x5)]) (st2 := [ov_r 90]) (pc2 := 266) b_206_265_1 rfl rfl ?_
                                refine ov_getf (v := ov_r 94) d_206_266 fl_Mo_30 (zb_90 I75) (zs_90 I75) (congrArg ov_r (rg_90_6 I75)) ?_
                                refine ov_blk (ls2 := [(0, ov_r 90), (1, ov_i x1), (2, ov_i x2_), (3, ov_i (t x2)), (4, ov_i x2), (5, ov_l x5)]) (st2 := [ov_l x5, ov_i x1, ov_r 94]) (pc2 := 272) b_206_269_2 rfl rfl ?_
                                refine ov_last d_206_272 (zb_94 I75) (zs_94 I75) (by omega) ?_
                                have I76 := ua_94 (k := x1) (x := x5) I75 (by omega)
                                refine ov_blk (ls2 := [(0, ov_r 90), (1, ov_i (x1 + 1)), (2, ov_i x2_), (3, ov_i (t x2)), (4, ov_i x2), (5, ov_l x5)]) (st2 := []) (pc2 := 276) b_206_273_1 rfl rfl ?_
                                have m1 : (4 : Int) = pt_cm (pt_ty t m x2) := by rw [mv.2.1, if_pos (by omega)]
                                refine ov_goto (tgt := 17) d_206_276 (by decide) ?_
                                refine ov_sub (ls2 := [(0, ov_r 90), (1, ov_i (x1 + 1)), (2, ov_i x2_)]) (List.Sublist.subset (by repeat (first | exact List.Sublist.refl _ | apply List.Sublist.cons_cons | apply List.Sublist.cons))) ?_
                                exact ih5 (x1 + 1) x2_ _ _ I76 E11 (fun a ca => Eq.trans (by show (ov_up (ov_up (ov_up h9 93 x1 x2) 92 x1 4) 94 x1 x5) a = h9 a; rw [ov_up_ne (by omega), ov_up_ne (by omega), ov_up_ne (by omega)]) (fr12 a ca)) (by rw [show (ov_up (ov_up (ov_up h9 93 x1 x2) 92 x1 4) 94 x1 x5) 92 = (ov_rs (h9 92) x1 4) from (Eq.trans (show (ov_up (ov_up (ov_up h9 93 x1 x2) 92 x1 4) 94 x1 x5) 92 = (ov_up (ov_up h9 93 x1 x2) 92 x1 4) 92 from rfl) (Eq.trans (ov_up_row (ov_up h9 93 x1 x2) 92 x1 4) (congrArg (fun f => ov_rs f x1 4) (Eq.trans (show (ov_up h9 93 x1 x2) 92 = h9 92 from rfl) rfl)))), show (ov_up (ov_up (ov_up h9 93 x1 x2) 92 x1 4) 94 x1 x5) 93 = (ov_rs (h9 93) x1 x2) from (Eq.trans (show (ov_up (ov_up (ov_up h9 93 x1 x2) 92 x1 4) 94 x1 x5) 93 = (ov_up (ov_up h9 93 x1 x2) 92 x1 4) 93 from rfl) (Eq.trans (show (ov_up (ov_up h9 93 x1 x2) 92 x1 4) 93 = (ov_up h9 93 x1 x2) 93 from rfl) (Eq.trans (ov_up_row h9 93 x1 x2) (congrArg (fun f => ov_rs f x1 x2) rfl)))), show (ov_up (ov_up (ov_up h9 93 x1 x2) 92 x1 4) 94 x1 x5) 94 = (ov_rs (h9 94) x1 x5) from (Eq.trans (ov_up_row (ov_up (ov_up h9 93 x1 x2) 92 x1 4) 94 x1 x5) (congrArg (fun f => ov_rs f x1 x5) (Eq.trans (show (ov_up (ov_up h9 93 x1 x2) 92 x1 4) 94 = (ov_up h9 93 x1 x2) 94 from rfl) (Eq.trans (show (ov_up h9 93 x1 x2) 94 = h9 94 from rfl) rfl))))]; exact pt_MP_s xm (by omega) (by omega) (by omega) m1 mv.1 mv.2.2.symm) (fun k n0 n1 n2 n3 => (Eq.trans (by show (ov_up (ov_up (ov_up h9 93 x1 x2) 92 x1 4) 94 x1 x5) 90 k = h9 90 k; rw [ov_up_ne (by decide), ov_up_ne (by decide), ov_up_ne (by decide)]) (rkl90 k n0 n1 n2 n3))) (by show 0 ≤ (x1 + 1) ∧ (x1 + 1) ≤ x2_ ∧ x2_ ≤ m ∧ (h9 90 3) = m ∧ (h9 90 2) = 0; omega) (by omega)
                            · omega
                          · skip
                            show ov_R u d ov_m206 176 [(0, ov_r 90), (1, ov_i x1), (2, ov_i x2_), (3, ov_i (t x2)), (4, ov_i x2), (5, ov_l x5)] [ov_i 1] z8 (ov_up h9 93 x1 x2) (P_fMo_cutAll_90 F z h t m)
                            have f77 : 48 ≤ (t x2_) ∧ (t x2_) ≤ 57 := f69
                            clear f69
                            refine ov_ifeq (tgt := 218) d_206_176 (by decide) (by omega) (fun c78 => ?_) (fun c78 => ?_)
                            · omega
                            · skip
                              refine ov_blk (ls2 := [(0, ov_r 90), (1, ov_i x1), (2, ov_i x2_), (3, ov_i (t x2)), (4, ov_i x2), (5, ov_l x5)]) (st2 := [ov_i 4, ov_i (x2_ - x2)]) (pc2 := 184) b_206_179_4 rfl rfl ?_
                              refine ov_icge (tgt := 208) d_206_184 (by decide) (by omega) (by omega) (fun c79 => ?_) (fun c79 => ?_)
                              · skip
                                refine ov_blk (ls2 := [(0, ov_r 90), (1, ov_i x1), (2, ov_i (x2_ + 1)), (3, ov_i (t x2)), (4, ov_i x2), (5, ov_l x5)]) (st2 := []) (pc2 := 215) b_206_208_3 rfl rfl ?_
                                refine ov_goto (tgt := 159) d_206_215 (by decide) ?_
                                exact ih53 (x2_ + 1) x5 (show pt_rn pt_dB t m (x2_ + 1) = _ from (pt_rn_s (P := pt_dB) (t := t) (n := m) (p := x2_) (by omega) (pt_dB_t (by omega))).symm.trans ya) (fun j a b => if e : j = x2_ then (by rw [e]; omega) else yr j a (by omega)) (fun w => by omega) (by show x2 ≤ (x2_ + 1) ∧ (x2_ + 1) ≤ m ∧ -9223372036854775808 ≤ x5 ∧ x5 ≤ 9223372036854775807; omega) (by omega)
                              · skip
                                refine ov_ldc2 (n := 10) d_206_187 kc_Mo_170 ?_
                                refine ov_blk (ls2 := [(0, ov_r 90), (1, ov_i x1), (2, ov_i x2_), (3, ov_i (t x2)), (4, ov_i x2), (5, ov_l x5)]) (st2 := [ov_l (10 * x5)]) (pc2 := 193) b_206_190_2 rfl rfl ?_
                                refine ov_havl (fun w80 gw80 qw80 => ?_)
                                refine ov_blk (ls2 := [(0, ov_r 90), (1, ov_i x1), (2, ov_i x2_), (3, ov_i (t x2)), (4, ov_i x2), (5, ov_l x5)]) (st2 := [ov_r 90, ov_l w80]) (pc2 := 194) b_206_193_1 rfl rfl ?_
                                refine ov_getf (v := ov_r 91) d_206_194 fl_Mo_14 (zb_90 I25) (zs_90 I25) (congrArg ov_r (rg_90_1 I25)) ?_
                                refine ov_blk (ls2 := [(0, ov_r 90), (1, ov_i x1), (2, ov_i x2_), (3, ov_i (t x2)), (4, ov_i x2), (5, ov_l x5)]) (st2 := [ov_i x2_, ov_r 91, ov_l w80]) (pc2 := 198) b_206_197_1 rfl rfl ?_
                                refine ov_iald d_206_198 (zb_91 I25) (zs_91 I25) (by omega) ?_
                                have g82 := ra_91 I25 x2_
                                have e81 : (ov_up h9 93 x1 x2) 91 x2_ = (t x2_) := Eq.trans (congrFun (show (ov_up h9 93 x1 x2) 91 = h 91 from E11) x2_) (congrFun e91 x2_)
                                rw [e81] at g82
                                show ov_R u d ov_m206 199 [(0, ov_r 90), (1, ov_i x1), (2, ov_i x2_), (3, ov_i (t x2)), (4, ov_i x2), (5, ov_l x5)] [ov_i ((ov_up h9 93 x1 x2) 91 x2_), ov_l w80] z8 (ov_up h9 93 x1 x2) (P_fMo_cutAll_90 F z h t m)
                                rw [e81]
                                show ov_R u d ov_m206 199 [(0, ov_r 90), (1, ov_i x1), (2, ov_i x2_), (3, ov_i (t x2)), (4, ov_i x2), (5, ov_l x5)] [ov_i (t x2_), ov_l w80] z8 (ov_up h9 93 x1 x2) (P_fMo_cutAll_90 F z h t m)
                                refine ov_blk (ls2 := [(0, ov_r 90), (1, ov_i x1), (2, ov_i x2_), (3, ov_i (t x2)), (4, ov_i x2), (5, ov_l x5)]) (st2 := [ov_l (ov_w (t x2_)), ov_l w80]) (pc2 := 200) b_206_199_1 rfl rfl ?_
                                have g83 := ov_wg (t x2_)
                                have g84 := ov_wq (t x2_)
                                rw [ov_wq (t x2_) (by omega)]
                                show ov_R u d ov_m206 200 [(0, ov_r 90), (1, ov_i x1), (2, ov_i x2_), (3, ov_i (t x2)), (4, ov_i x2), (5, ov_l x5)] [ov_l (t x2_), ov_l w80] z8 (ov_up h9 93 x1 x2) (P_fMo_cutAll_90 F z h t m)
                                refine ov_blk (ls2 := [(0, ov_r 90), (1, ov_i x1), (2, ov_i x2_), (3, ov_i (t x2)), (4, ov_i x2), (5, ov_l x5)]) (st2 := [ov_l (w80 + (t x2_))]) (pc2 := 201) b_206_200_1 rfl rfl ?_
                                refine ov_havl (fun w85 gw85 qw85 => ?_)
                                refine ov_ldc2 (n := 48) d_206_201 kc_Mo_172 ?_
                                refine ov_blk (ls2 := [(0, ov_r 90), (1, ov_i x1), (2, ov_i x2_), (3, ov_i (t x2)), (4, ov_i x2), (5, ov_l x5)]) (st2 := [ov_l (w85 - 48)]) (pc2 := 205) b_206_204_1 rfl rfl ?_
                                refine ov_havl (fun w86 gw86 qw86 => ?_)
                                refine ov_goto (tgt := 210) d_206_205 (by decide) ?_
                                refine ov_blk (ls2 := [(0, ov_r 90), (1, ov_i x1), (2, ov_i (x2_ + 1)), (3, ov_i (t x2)), (4, ov_i x2), (5, ov_l w86)]) (st2 := []) (pc2 := 215) b_206_210_2 rfl rfl ?_
                                refine ov_goto (tgt := 159) d_206_215 (by decide) ?_
                                exact ih53 (x2_ + 1) w86 (show pt_rn pt_dB t m (x2_ + 1) = _ from (pt_rn_s (P := pt_dB) (t := t) (n := m) (p := x2_) (by omega) (pt_dB_t (by omega))).symm.trans ya) (fun j a b => if e : j = x2_ then (by rw [e]; omega) else yr j a (by omega)) (pt_d_step (p := x2) (x := x2_) (by omega) yb yr qw80 qw85 qw86 (by omega)) (by show x2 ≤ (x2_ + 1) ∧ (x2_ + 1) ≤ m ∧ -9223372036854775808 ≤ w86 ∧ w86 ≤ 9223372036854775807; omega) (by omega)
                    exact L55 1001 x2 0 rfl (fun j a b => by omega) (fun _ => by rw [show Int.toNat (x2 - x2) = 0 by omega]; rfl) (by show x2 ≤ x2 ∧ x2 ≤ m ∧ -9223372036854775808 ≤ 0 ∧ 0 ≤ 9223372036854775807; omega) (by omega)
              · omega
            · skip
              show ov_R u d ov_m206 67 [(0, ov_r 90), (1, ov_i x1), (2, ov_i x2), (3, ov_i (t x2)), (4, ov_i x2), (5, ov_l 0)] [ov_i 1] z8 (ov_up h9 93 x1 x2) (P_fMo_cutAll_90 F z h t m)
              have f87 : 97 ≤ (t x2) ∧ (t x2) ≤ 122 := f29
              clear f29
              refine ov_ifeq (tgt := 152) d_206_67 (by decide) (by omega) (fun c88 => ?_) (fun c88 => ?_)
              · omega
              · skip
                have L92 : ∀ (n89 : Nat) (x2__ : Int) (x5_ : Int) (ya : pt_rn pt_lB t m x2__ = pt_rn pt_lB t m x2) (yr : ∀ j : Int, x2 ≤ j → j < x2__ → 97 ≤ t j ∧ t j ≤ 122) (yb : x2__ - x2 ≤ 8 → x5_ = pt_wv 37 96 t x2 (Int.toNat (x2__ - x2))) (q91 : x2 ≤ x2__ ∧ x2__ ≤ m ∧ -9223372036854775808 ≤ x5_ ∧ x5_ ≤ 9223372036854775807), 1000 - x2__ < (n89 : Int) → ov_R u d ov_m206 70 [(0, ov_r 90), (1, ov_i x1), (2, ov_i x2__), (3, ov_i (t x2)), (4, ov_i x2), (5, ov_l x5_)] [] z8 (ov_up h9 93 x1 x2) (P_fMo_cutAll_90 F z h t m) := by
                  intro n89
                  induction n89 with
                  | zero =>
                    intro x2__ x5_ ya yr yb q91 hn93
                    exact absurd hn93 (by omega)
                  | succ n89 ih90 =>
                    intro x2__ x5_ ya yr yb q91 hn93
                    refine ov_blk (ls2 := [(0, ov_r 90), (1, ov_i x1), (2, ov_i x2__), (3, ov_i (t x2)), (4, ov_i x2), (5, ov_l x5_)]) (st2 := [ov_r 90, ov_i x2__]) (pc2 := 72) b_206_70_2 rfl rfl ?_
                    refine ov_getf (v := ov_i (h9 90 3)) d_206_72 fl_Mo_158 (zb_90 I25) (zs_90 I25) rfl ?_
                    refine ov_icge (tgt := 129) d_206_75 (by decide) (by omega) (by omega) (fun c95 => ?_) (fun c95 => ?_)
                    · skip
                      have hl : pt_rn pt_lB t m x2 = x2__ := ya.symm.trans (pt_lt_e (t := t) (n := m) (p := x2__) (by omega))
                      have hp9 : x2 < x2__ := by have := pt_rn_s (P := pt_lB) (t := t) (n := m) (p := x2) (by omega) (pt_lB_t (by omega)); have b9 := pt_rn_b (P := pt_lB) (t := t) (n := m) (p := x2 + 1); omega
                      have mv := pt_MVw (v := x5_) hl hp9 yb
                      refine ov_blk (ls2 := [(0, ov_r 90), (1, ov_i x1), (2, ov_i x2__), (3, ov_i (t x2)), (4, ov_i x2), (5, ov_l x5_)]) (st2 := [ov_r 90]) (pc2 := 130) b_206_129_1 rfl rfl ?_
                      refine ov_getf (v := ov_r 92) d_206_130 fl_Mo_24 (zb_90 I25) (zs_90 I25) (congrArg ov_r (rg_90_4 I25)) ?_
                      refine ov_blk (ls2 := [(0, ov_r 90), (1, ov_i x1), (2, ov_i x2__), (3, ov_i (t x2)), (4, ov_i x2), (5, ov_l x5_)]) (st2 := [ov_i 8, ov_i (x2__ - x2), ov_i x1, ov_r 92]) (pc2 := 140) b_206_133_5 rfl rfl ?_
                      refine ov_icle (tgt := 147) d_206_140 (by decide) (by omega) (by omega) (fun c96 => ?_) (fun c96 => ?_)
                      · skip
                        refine ov_blk (ls2 := [(0, ov_r 90), (1, ov_i x1), (2, ov_i x2__), (3, ov_i (t x2)), (4, ov_i x2), (5, ov_l x5_)]) (st2 := [ov_i 1, ov_i x1, ov_r 92]) (pc2 := 148) b_206_147_1 rfl rfl ?_
                        refine ov_iast d_206_148 (zb_92 I25) (zs_92 I25) (by omega) ?_
                        have I97 := ua_92 (k := x1) (x := 1) I25 (by omega)
                        refine ov_goto (tgt := 265) d_206_149 (by decide) ?_
                        refine ov_blk (ls2 := [(0, ov_r 90), (1, ov_i x1), (2, ov_i x2__), (3, ov_i (t x2)), (4, ov_i x2), (5, ov_l x5_)]) (st2 := [ov_r 90]) (pc2 := 266) b_206_265_1 rfl rfl ?_
                        refine ov_getf (v := ov_r 94) d_206_266 fl_Mo_30 (zb_90 I97) (zs_90 I97) (congrArg ov_r (rg_90_6 I97)) ?_
                        refine ov_blk (ls2 := [(0, ov_r 90), (1, ov_i x1), (2, ov_i x2__), (3, ov_i (t x2)), (4, ov_i x2), (5, ov_l x5_)]) (st2 := [ov_l x5_, ov_i x1, ov_r 94]) (pc2 := 272) b_206_269_2 rfl rfl ?_
                        refine ov_last d_206_272 (zb_94 I97) (zs_94 I97) (by omega) ?_
                        have I98 := ua_94 (k := x1) (x := x5_) I97 (by omega)
                        refine ov_blk (ls2 := [(0, ov_r 90), (1, ov_i (x1 + 1)), (2, ov_i x2__), (3, ov_i (t x2)), (4, ov_i x2), (5, ov_l x5_)]) (st2 := []) (pc2 := 276) b_206_273_1 rfl rfl ?_
                        have m1 : (1 : Int) = pt_cm (pt_ty t m x2) := by rw [mv.2.1, if_neg (by omega)]
                        refine ov_goto (tgt := 17) d_206_276 (by decide) ?_
                        refine ov_sub (ls2 := [(0, ov_r 90), (1, ov_i (x1 + 1)), (2, ov_i x2__)]) (List.Sublist.subset (by repeat (first | exact List.Sublist.refl _ | apply List.Sublist.cons_cons | apply List.Sublist.cons))) ?_
                        exact ih5 (x1 + 1) x2__ _ _ I98 E11 (fun a ca => Eq.trans (by show (ov_up (ov_up (ov_up h9 93 x1 x2) 92 x1 1) 94 x1 x5_) a = h9 a; rw [ov_up_ne (by omega), ov_up_ne (by omega), ov_up_ne (by omega)]) (fr12 a ca)) (by rw [show (ov_up (ov_up (ov_up h9 93 x1 x2) 92 x1 1) 94 x1 x5_) 92 = (ov_rs (h9 92) x1 1) from (Eq.trans (show (ov_up (ov_up (ov_up h9 93 x1 x2) 92 x1 1) 94 x1 x5_) 92 = (ov_up (ov_up h9 93 x1 x2) 92 x1 1) 92 from rfl) (Eq.trans (ov_up_row (ov_up h9 93 x1 x2) 92 x1 1) (congrArg (fun f => ov_rs f x1 1) (Eq.trans (show (ov_up h9 93 x1 x2) 92 = h9 92 from rfl) rfl)))), show (ov_up (ov_up (ov_up h9 93 x1 x2) 92 x1 1) 94 x1 x5_) 93 = (ov_rs (h9 93) x1 x2) from (Eq.trans (show (ov_up (ov_up (ov_up h9 93 x1 x2) 92 x1 1) 94 x1 x5_) 93 = (ov_up (ov_up h9 93 x1 x2) 92 x1 1) 93 from rfl) (Eq.trans (show (ov_up (ov_up h9 93 x1 x2) 92 x1 1) 93 = (ov_up h9 93 x1 x2) 93 from rfl) (Eq.trans (ov_up_row h9 93 x1 x2) (congrArg (fun f => ov_rs f x1 x2) rfl)))), show (ov_up (ov_up (ov_up h9 93 x1 x2) 92 x1 1) 94 x1 x5_) 94 = (ov_rs (h9 94) x1 x5_) from (Eq.trans (ov_up_row (ov_up (ov_up h9 93 x1 x2) 92 x1 1) 94 x1 x5_) (congrArg (fun f => ov_rs f x1 x5_) (Eq.trans (show (ov_up (ov_up h9 93 x1 x2) 92 x1 1) 94 = (ov_up h9 93 x1 x2) 94 from rfl) (Eq.trans (show (ov_up h9 93 x1 x2) 94 = h9 94 from rfl) rfl))))]; exact pt_MP_s xm (by omega) (by omega) (by omega) m1 mv.1 mv.2.2.symm) (fun k n0 n1 n2 n3 => (Eq.trans (by show (ov_up (ov_up (ov_up h9 93 x1 x2) 92 x1 1) 94 x1 x5_) 90 k = h9 90 k; rw [ov_up_ne (by decide), ov_up_ne (by decide), ov_up_ne (by decide)]) (rkl90 k n0 n1 n2 n3))) (by show 0 ≤ (x1 + 1) ∧ (x1 + 1) ≤ x2__ ∧ x2__ ≤ m ∧ (h9 90 3) = m ∧ (h9 90 2) = 0; omega) (by omega)
                      · skip
                        refine ov_blk (ls2 := [(0, ov_r 90), (1, ov_i x1), (2, ov_i x2__), (3, ov_i (t x2)), (4, ov_i x2), (5, ov_l x5_)]) (st2 := [ov_i 4, ov_i x1, ov_r 92]) (pc2 := 144) b_206_143_1 rfl rfl ?_
                        refine ov_goto (tgt := 148) d_206_144 (by decide) ?_
                        refine ov_iast d_206_148 (zb_92 I25) (zs_92 I25) (by omega) ?_
                        have I99 := ua_92 (k := x1) (x := 4) I25 (by omega)
                        refine ov_goto (tgt := 265) d_206_149 (by decide) ?_
                        refine ov_blk (ls2 := [(0, ov_r 90), (1, ov_i x1), (2, ov_i x2__), (3, ov_i (t x2)), (4, ov_i x2), (5, ov_l x5_)]) (st2 := [ov_r 90]) (pc2 := 266) b_206_265_1 rfl rfl ?_
                        refine ov_getf (v := ov_r 94) d_206_266 fl_Mo_30 (zb_90 I99) (zs_90 I99) (congrArg ov_r (rg_90_6 I99)) ?_
                        refine ov_blk (ls2 := [(0, ov_r 90), (1, ov_i x1), (2, ov_i x2__), (3, ov_i (t x2)), (4, ov_i x2), (5, ov_l x5_)]) (st2 := [ov_l x5_, ov_i x1, ov_r 94]) (pc2 := 272) b_206_269_2 rfl rfl ?_
                        refine ov_last d_206_272 (zb_94 I99) (zs_94 I99) (by omega) ?_
                        have I100 := ua_94 (k := x1) (x := x5_) I99 (by omega)
                        refine ov_blk (ls2 := [(0, ov_r 90), (1, ov_i (x1 + 1)), (2, ov_i x2__), (3, ov_i (t x2)), (4, ov_i x2), (5, ov_l x5_)]) (st2 := []) (pc2 := 276) b_206_273_1 rfl rfl ?_
                        have m1 : (4 : Int) = pt_cm (pt_ty t m x2) := by rw [mv.2.1, if_pos (by omega)]
                        refine ov_goto (tgt := 17) d_206_276 (by decide) ?_
                        refine ov_sub (ls2 := [(0, ov_r 90), (1, ov_i (x1 + 1)), (2, ov_i x2__)]) (List.Sublist.subset (by repeat (first | exact List.Sublist.refl _ | apply List.Sublist.cons_cons | apply List.Sublist.cons))) ?_
                        exact ih5 (x1 + 1) x2__ _ _ I100 E11 (fun a ca => Eq.trans (by show (ov_up (ov_up (ov_up h9 93 x1 x2) 92 x1 4) 94 x1 x5_) a = h9 a; rw [ov_up_ne (by omega), ov_up_ne (by omega), ov_up_ne (by omega)]) (fr12 a ca)) (by rw [show (ov_up (ov_up (ov_up h9 93 x1 x2) 92 x1 4) 94 x1 x5_) 92 = (ov_rs (h9 92) x1 4) from (Eq.trans (show (ov_up (ov_up (ov_up h9 93 x1 x2) 92 x1 4) 94 x1 x5_) 92 = (ov_up (ov_up h9 93 x1 x2) 92 x1 4) 92 from rfl) (Eq.trans (ov_up_row (ov_up h9 93 x1 x2) 92 x1 4) (congrArg (fun f => ov_rs f x1 4) (Eq.trans (show (ov_up h9 93 x1 x2) 92 = h9 92 from rfl) rfl)))), show (ov_up (ov_up (ov_up h9 93 x1 x2) 92 x1 4) 94 x1 x5_) 93 = (ov_rs (h9 93) x1 x2) from (Eq.trans (show (ov_up (ov_up (ov_up h9 93 x1 x2) 92 x1 4) 94 x1 x5_) 93 = (ov_up (ov_up h9 93 x1 x2) 92 x1 4) 93 from rfl) (Eq.trans (show (ov_up (ov_up h9 93 x1 x2) 92 x1 4) 93 = (ov_up h9 93 x1 x2) 93 from rfl) (Eq.trans (ov_up_row h9 93 x1 x2) (congrArg (fun f => ov_rs f x1 x2) rfl)))), show (ov_up (ov_up (ov_up h9 93 x1 x2) 92 x1 4) 94 x1 x5_) 94 = (ov_rs (h9 94) x1 x5_) from (Eq.trans (ov_up_row (ov_up (ov_up h9 93 x1 x2) 92 x1 4) 94 x1 x5_) (congrArg (fun f => ov_rs f x1 x5_) (Eq.trans (show (ov_up (ov_up h9 93 x1 x2) 92 x1 4) 94 = (ov_up h9 93 x1 x2) 94 from rfl) (Eq.trans (show (ov_up h9 93 x1 x2) 94 = h9 94 from rfl) rfl))))]; exact pt_MP_s xm (by omega) (by omega) (by omega) m1 mv.1 mv.2.2.symm) (fun k n0 n1 n2 n3 => (Eq.trans (by show (ov_up (ov_up (ov_up h9 93 x1 x2) 92 x1 4) 94 x1 x5_) 90 k = h9 90 k; rw [ov_up_ne (by decide), ov_up_ne (by decide), ov_up_ne (by decide)]) (rkl90 k n0 n1 n2 n3))) (by show 0 ≤ (x1 + 1) ∧ (x1 + 1) ≤ x2__ ∧ x2__ ≤ m ∧ (h9 90 3) = m ∧ (h9 90 2) = 0; omega) (by omega)
                    · skip
                      refine ov_blk (ls2 := [(0, ov_r 90), (1, ov_i x1), (2, ov_i x2__), (3, ov_i (t x2)), (4, ov_i x2), (5, ov_l x5_)]) (st2 := [ov_r 90]) (pc2 := 79) b_206_78_1 rfl rfl ?_
                      refine ov_getf (v := ov_r 91) d_206_79 fl_Mo_14 (zb_90 I25) (zs_90 I25) (congrArg ov_r (rg_90_1 I25)) ?_
                      refine ov_blk (ls2 := [(0, ov_r 90), (1, ov_i x1), (2, ov_i x2__), (3, ov_i (t x2)), (4, ov_i x2), (5, ov_l x5_)]) (st2 := [ov_i x2__, ov_r 91]) (pc2 := 83) b_206_82_1 rfl rfl ?_
                      refine ov_iald d_206_83 (zb_91 I25) (zs_91 I25) (by omega) ?_
                      have g102 := ra_91 I25 x2__
                      have e101 : (ov_up h9 93 x1 x2) 91 x2__ = (t x2__) := Eq.trans (congrFun (show (ov_up h9 93 x1 x2) 91 = h 91 from E11) x2__) (congrFun e91 x2__)
                      rw [e101] at g102
                      show ov_R u d ov_m206 84 [(0, ov_r 90), (1, ov_i x1), (2, ov_i x2__), (3, ov_i (t x2)), (4, ov_i x2), (5, ov_l x5_)] [ov_i ((ov_up h9 93 x1 x2) 91 x2__)] z8 (ov_up h9 93 x1 x2) (P_fMo_cutAll_90 F z h t m)
                      rw [e101]
                      show ov_R u d ov_m206 84 [(0, ov_r 90), (1, ov_i x1), (2, ov_i x2__), (3, ov_i (t x2)), (4, ov_i x2), (5, ov_l x5_)] [ov_i (t x2__)] z8 (ov_up h9 93 x1 x2) (P_fMo_cutAll_90 F z h t m)
                      refine ov_cS (as := [ov_i (t x2__)]) (st := []) (d2 := d - 1) d_206_84 lk_Mo_154 rfl (Nat.le_of_ble_eq_true rfl) (by omega) (c_fMo_isLetter (d - 1) (by omega) U I25 (t x2__) (by omega)) ?_
                      rintro _ _ _ ⟨v103, rfl, rfl, rfl, y104⟩
                      rcases y104 with ⟨rfl, f105⟩ | ⟨rfl, f106⟩
                      · skip
                        show ov_R u d ov_m206 87 [(0, ov_r 90), (1, ov_i x1), (2, ov_i x2__), (3, ov_i (t x2)), (4, ov_i x2), (5, ov_l x5_)] [ov_i 0] z8 (ov_up h9 93 x1 x2) (P_fMo_cutAll_90 F z h t m)
                        have f107 : (t x2__) < 97 ∨ 122 < (t x2__) := f105
                        clear f105
                        refine ov_ifeq (tgt := 129) d_206_87 (by decide) (by omega) (fun c108 => ?_) (fun c108 => ?_)
                        · skip
                          have hl : pt_rn pt_lB t m x2 = x2__ := ya.symm.trans (pt_lt_e (t := t) (n := m) (p := x2__) (by omega))
                          have hp9 : x2 < x2__ := by have := pt_rn_s (P := pt_lB) (t := t) (n := m) (p := x2) (by omega) (pt_lB_t (by omega)); have b9 := pt_rn_b (P := pt_lB) (t := t) (n := m) (p := x2 + 1); omega
                          have mv := pt_MVw (v := x5_) hl hp9 yb
                          refine ov_blk (ls2 := [(0, ov_r 90), (1, ov_i x1), (2, ov_i x2__), (3, ov_i (t x2)), (4, ov_i x2), (5, ov_l x5_)]) (st2 := [ov_r 90]) (pc2 := 130) b_206_129_1 rfl rfl ?_
                          refine ov_getf (v := ov_r 92) d_206_130 fl_Mo_24 (zb_90 I25) (zs_90 I25) (congrArg ov_r (rg_90_4 I25)) ?_
                          refine ov_blk (ls2 := [(0, ov_r 90), (1, ov_i x1), (2, ov_i x2__), (3, ov_i (t x2)), (4, ov_i x2), (5, ov_l x5_)]) (st2 := [ov_i 8, ov_i (x2__ - x2), ov_i x1, ov_r 92]) (pc2 := 140) b_206_133_5 rfl rfl ?_
                          refine ov_icle (tgt := 147) d_206_140 (by decide) (by omega) (by omega) (fun c109 => ?_) (fun c109 => ?_)
                          · skip
                            refine ov_blk (ls2 := [(0, ov_r 90), (1, ov_i x1), (2, ov_i x2__), (3, ov_i (t x2)), (4, ov_i x2), (5, ov_l x5_)]) (st2 := [ov_i 1, ov_i x1, ov_r 92]) (pc2 := 148) b_206_147_1 rfl rfl ?_
                            refine ov_iast d_206_148 (zb_92 I25) (zs_92 I25) (by omega) ?_
                            have I110 := ua_92 (k := x1) (x := 1) I25 (by omega)
                            refine ov_goto (tgt := 265) d_206_149 (by decide) ?_
                            refine ov_blk (ls2 := [(0, ov_r 90), (1, ov_i x1), (2, ov_i x2__), (3, ov_i (t x2)), (4, ov_i x2), (5, ov_l x5_)]) (st2 := [ov_r 90]) (pc2 := 266) b_206_265_1 rfl rfl ?_
                            refine ov_getf (v := ov_r 94) d_206_266 fl_Mo_30 (zb_90 I110) (zs_90 I110) (congrArg ov_r (rg_90_6 I110)) ?_
                            refine ov_blk (ls2 := [(0, ov_r 90), (1, ov_i x1), (2, ov_i x2__), (3, ov_i (t x2)), (4, ov_i x2), (5, ov_l x5_)]) (st2 := [ov_l x5_, ov_i x1, ov_r 94]) (pc2 := 272) b_206_269_2 rfl rfl ?_
                            refine ov_last d_206_272 (zb_94 I110) (zs_94 I110) (by omega) ?_
                            have I111 := ua_94 (k := x1) (x := x5_) I110 (by omega)
                            refine ov_blk (ls2 := [(0, ov_r 90), (1, ov_i (x1 + 1)), (2, ov_i x2__), (3, ov_i (t x2)), (4, ov_i x2), (5, ov_l x5_)]) (st2 := []) (pc2 := 276) b_206_273_1 rfl rfl ?_
                            have m1 : (1 : Int) = pt_cm (pt_ty t m x2) := by rw [mv.2.1, if_neg (by omega)]
                            refine ov_goto (tgt := 17) d_206_276 (by decide) ?_
                            refine ov_sub (ls2 := [(0, ov_r 90), (1, ov_i (x1 + 1)), (2, ov_i x2__)]) (List.Sublist.subset (by repeat (first | exact List.Sublist.refl _ | apply List.Sublist.cons_cons | apply List.Sublist.cons))) ?_
                            exact ih5 (x1 + 1) x2__ _ _ I111 E11 (fun a ca => Eq.trans (by show (ov_up (ov_up (ov_up h9 93 x1 x2) 92 x1 1) 94 x1 x5_) a = h9 a; rw [ov_up_ne (by omega), ov_up_ne (by omega), ov_up_ne (by omega)]) (fr12 a ca)) (by rw [show (ov_up (ov_up (ov_up h9 93 x1 x2) 92 x1 1) 94 x1 x5_) 92 = (ov_rs (h9 92) x1 1) from (Eq.trans (show (ov_up (ov_up (ov_up h9 93 x1 x2) 92 x1 1) 94 x1 x5_) 92 = (ov_up (ov_up h9 93 x1 x2) 92 x1 1) 92 from rfl) (Eq.trans (ov_up_row (ov_up h9 93 x1 x2) 92 x1 1) (congrArg (fun f => ov_rs f x1 1) (Eq.trans (show (ov_up h9 93 x1 x2) 92 = h9 92 from rfl) rfl)))), show (ov_up (ov_up (ov_up h9 93 x1 x2) 92 x1 1) 94 x1 x5_) 93 = (ov_rs (h9 93) x1 x2) from (Eq.trans (show (ov_up (ov_up (ov_up h9 93 x1 x2) 92 x1 1) 94 x1 x5_) 93 = (ov_up (ov_up h9 93 x1 x2) 92 x1 1) 93 from rfl) (Eq.trans (show (ov_up (ov_up h9 93 x1 x2) 92 x1 1) 93 = (ov_up h9 93 x1 x2) 93 from rfl) (Eq.trans (ov_up_row h9 93 x1 x2) (congrArg (fun f => ov_rs f x1 x2) rfl)))), show (ov_up (ov_up (ov_up h9 93 x1 x2) 92 x1 1) 94 x1 x5_) 94 = (ov_rs (h9 94) x1 x5_) from (Eq.trans (ov_up_row (ov_up (ov_up h9 93 x1 x2) 92 x1 1) 94 x1 x5_) (congrArg (fun f => ov_rs f x1 x5_) (Eq.trans (show (ov_up (ov_up h9 93 x1 x2) 92 x1 1) 94 = (ov_up h9 93 x1 x2) 94 from rfl) (Eq.trans (show (ov_up h9 93 x1 x2) 94 = h9 94 from rfl) rfl))))]; exact pt_MP_s xm (by omega) (by omega) (by omega) m1 mv.1 mv.2.2.symm) (fun k n0 n1 n2 n3 => (Eq.trans (by show (ov_up (ov_up (ov_up h9 93 x1 x2) 92 x1 1) 94 x1 x5_) 90 k = h9 90 k; rw [ov_up_ne (by decide), ov_up_ne (by decide), ov_up_ne (by decide)]) (rkl90 k n0 n1 n2 n3))) (by show 0 ≤ (x1 + 1) ∧ (x1 + 1) ≤ x2__ ∧ x2__ ≤ m ∧ (h9 90 3) = m ∧ (h9 90 2) = 0; omega) (by omega)
                          · skip
                            refine ov_blk (ls2 := [(0, ov_r 90), (1, ov_i x1), (2, ov_i x2__), (3, ov_i (t x2)), (4, ov_i x2), (5, ov_l x5_)]) (st2 := [ov_i 4, ov_i x1, ov_r 92]) (pc2 := 144) b_206_143_1 rfl rfl ?_
                            refine ov_goto (tgt := 148) d_206_144 (by decide) ?_
                            refine ov_iast d_206_148 (zb_92 I25) (zs_92 I25) (by omega) ?_
                            have I112 := ua_92 (k := x1) (x := 4) I25 (by omega)
                            refine ov_goto (tgt := 265) d_206_149 (by decide) ?_
                            refine ov_blk (ls2 := [(0, ov_r 90), (1, ov_i x1), (2, ov_i x2__), (3, ov_i (t x2)), (4, ov_i x2), (5, ov_l x5_)]) (st2 := [ov_r 90]) (pc2 := 266) b_206_265_1 rfl rfl ?_
                            refine ov_getf (v := ov_r 94) d_206_266 fl_Mo_30 (zb_90 I112) (zs_90 I112) (congrArg ov_r (rg_90_6 I112)) ?_
                            refine ov_blk (ls2 := [(0, ov_r 90), (1, ov_i x1), (2, ov_i x2__), (3, ov_i (t x2)), (4, ov_i x2), (5, ov_l x5_)]) (st2 := [ov_l x5_, ov_i x1, ov_r 94]) (pc2 := 272) b_206_269_2 rfl rfl ?_
                            refine ov_last d_206_272 (zb_94 I112) (zs_94 I112) (by omega) ?_
                            have I113 := ua_94 (k := x1) (x := x5_) I112 (by omega)
                            refine ov_blk (ls2 := [(0, ov_r 90), (1, ov_i (x1 + 1)), (2, ov_i x2__), (3, ov_i (t x2)), (4, ov_i x2), (5, ov_l x5_)]) (st2 := []) (pc2 := 276) b_206_273_1 rfl rfl ?_
                            have m1 : (4 : Int) = pt_cm (pt_ty t m x2) := by rw [mv.2.1, if_pos (by omega)]
                            refine ov_goto (tgt := 17) d_206_276 (by decide) ?_
                            refine ov_sub (ls2 := [(0, ov_r 90), (1, ov_i (x1 + 1)), (2, ov_i x2__)]) (List.Sublist.subset (by repeat (first | exact List.Sublist.refl _ | apply List.Sublist.cons_cons | apply List.Sublist.cons))) ?_
                            exact ih5 (x1 + 1) x2__ _ _ I113 E11 (fun a ca => Eq.trans (by show (ov_up (ov_up (ov_up h9 93 x1 x2) 92 x1 4) 94 x1 x5_) a = h9 a; rw [ov_up_ne (by omega), ov_up_ne (by omega), ov_up_ne (by omega)]) (fr12 a ca)) (by rw [show (ov_up (ov_up (ov_up h9 93 x1 x2) 92 x1 4) 94 x1 x5_) 92 = (ov_rs (h9 92) x1 4) from (Eq.trans (show (ov_up (ov_up (ov_up h9 93 x1 x2) 92 x1 4) 94 x1 x5_) 92 = (ov_up (ov_up h9 93 x1 x2) 92 x1 4) 92 from rfl) (Eq.trans (ov_up_row (ov_up h9 93 x1 x2) 92 x1 4) (congrArg (fun f => ov_rs f x1 4) (Eq.trans (show (ov_up h9 93 x1 x2) 92 = h9 92 from rfl) rfl)))), show (ov_up (ov_up (ov_up h9 93 x1 x2) 92 x1 4) 94 x1 x5_) 93 = (ov_rs (h9 93) x1 x2) from (Eq.trans (show (ov_up (ov_up (ov_up h9 93 x1 x2) 92 x1 4) 94 x1 x5_) 93 = (ov_up (ov_up h9 93 x1 x2) 92 x1 4) 93 from rfl) (Eq.trans (show (ov_up (ov_up h9 93 x1 x2) 92 x1 4) 93 = (ov_up h9 93 x1 x2) 93 from rfl) (Eq.trans (ov_up_row h9 93 x1 x2) (congrArg (fun f => ov_rs f x1 x2) rfl)))), show (ov_up (ov_up (ov_up h9 93 x1 x2) 92 x1 4) 94 x1 x5_) 94 = (ov_rs (h9 94) x1 x5_) from (Eq.trans (ov_up_row (ov_up (ov_up h9 93 x1 x2) 92 x1 4) 94 x1 x5_) (congrArg (fun f => ov_rs f x1 x5_) (Eq.trans (show (ov_up (ov_up h9 93 x1 x2) 92 x1 4) 94 = (ov_up h9 93 x1 x2) 94 from rfl) (Eq.trans (show (ov_up h9 93 x1 x2) 94 = h9 94 from rfl) rfl))))]; exact pt_MP_s xm (by omega) (by omega) (by omega) m1 mv.1 mv.2.2.symm) (fun k n0 n1 n2 n3 => (Eq.trans (by show (ov_up (ov_up (ov_up h9 93 x1 x2) 92 x1 4) 94 x1 x5_) 90 k = h9 90 k; rw [ov_up_ne (by decide), ov_up_ne (by decide), ov_up_ne (by decide)]) (rkl90 k n0 n1 n2 n3))) (by show 0 ≤ (x1 + 1) ∧ (x1 + 1) ≤ x2__ ∧ x2__ ≤ m ∧ (h9 90 3) = m ∧ (h9 90 2) = 0; omega) (by omega)
                        · omega
                      · skip
                        show ov_R u d ov_m206 87 [(0, ov_r 90), (1, ov_i x1), (2, ov_i x2__), (3, ov_i (t x2)), (4, ov_i x2), (5, ov_l x5_)] [ov_i 1] z8 (ov_up h9 93 x1 x2) (P_fMo_cutAll_90 F z h t m)
                        have f114 : 97 ≤ (t x2__) ∧ (t x2__) ≤ 122 := f106
                        clear f106
                        refine ov_ifeq (tgt := 129) d_206_87 (by decide) (by omega) (fun c115 => ?_) (fun c115 => ?_)
                        · omega
                        · skip
                          refine ov_blk (ls2 := [(0, ov_r 90), (1, ov_i x1), (2, ov_i x2__), (3, ov_i (t x2)), (4, ov_i x2), (5, ov_l x5_)]) (st2 := [ov_i 8, ov_i (x2__ - x2)]) (pc2 := 96) b_206_90_4 rfl rfl ?_
                          refine ov_icge (tgt := 119) d_206_96 (by decide) (by omega) (by omega) (fun c116 => ?_) (fun c116 => ?_)
                          · skip
                            refine ov_blk (ls2 := [(0, ov_r 90), (1, ov_i x1), (2, ov_i (x2__ + 1)), (3, ov_i (t x2)), (4, ov_i x2), (5, ov_l x5_)]) (st2 := []) (pc2 := 126) b_206_119_3 rfl rfl ?_
                            refine ov_goto (tgt := 70) d_206_126 (by decide) ?_
                            exact ih90 (x2__ + 1) x5_ (show pt_rn pt_lB t m (x2__ + 1) = _ from (pt_rn_s (P := pt_lB) (t := t) (n := m) (p := x2__) (by omega) (pt_lB_t (by omega))).symm.trans ya) (fun j a b => if e : j = x2__ then (by rw [e]; omega) else yr j a (by omega)) (fun w => by omega) (by show x2 ≤ (x2__ + 1) ∧ (x2__ + 1) ≤ m ∧ -9223372036854775808 ≤ x5_ ∧ x5_ ≤ 9223372036854775807; omega) (by omega)
                          · skip
                            refine ov_ldc2 (n := 37) d_206_99 kc_Mo_161 ?_
                            refine ov_blk (ls2 := [(0, ov_r 90), (1, ov_i x1), (2, ov_i x2__), (3, ov_i (t x2)), (4, ov_i x2), (5, ov_l x5_)]) (st2 := [ov_l (37 * x5_)]) (pc2 := 105) b_206_102_2 rfl rfl ?_
                            refine ov_havl (fun w117 gw117 qw117 => ?_)
                            refine ov_blk (ls2 := [(0, ov_r 90), (1, ov_i x1), (2, ov_i x2__), (3, ov_i (t x2)), (4, ov_i x2), (5, ov_l x5_)]) (st2 := [ov_r 90, ov_l w117]) (pc2 := 106) b_206_105_1 rfl rfl ?_
                            refine ov_getf (v := ov_r 91) d_206_106 fl_Mo_14 (zb_90 I25) (zs_90 I25) (congrArg ov_r (rg_90_1 I25)) ?_
                            refine ov_blk (ls2 := [(0, ov_r 90), (1, ov_i x1), (2, ov_i x2__), (3, ov_i (t x2)), (4, ov_i x2), (5, ov_l x5_)]) (st2 := [ov_i x2__, ov_r 91, ov_l w117]) (pc2 := 110) b_206_109_1 rfl rfl ?_
                            refine ov_iald d_206_110 (zb_91 I25) (zs_91 I25) (by omega) ?_
                            have g119 := ra_91 I25 x2__
                            have e118 : (ov_up h9 93 x1 x2) 91 x2__ = (t x2__) := Eq.trans (congrFun (show (ov_up h9 93 x1 x2) 91 = h 91 from E11) x2__) (congrFun e91 x2__)
                            rw [e118] at g119
                            show ov_R u d ov_m206 111 [(0, ov_r 90), (1, ov_i x1), (2, ov_i x2__), (3, ov_i (t x2)), (4, ov_i x2), (5, ov_l x5_)] [ov_i ((ov_up h9 93 x1 x2) 91 x2__), ov_l w117] z8 (ov_up h9 93 x1 x2) (P_fMo_cutAll_90 F z h t m)
                            rw [e118]
                            show ov_R u d ov_m206 111 [(0, ov_r 90), (1, ov_i x1), (2, ov_i x2__), (3, ov_i (t x2)), (4, ov_i x2), (5, ov_l x5_)] [ov_i (t x2__), ov_l w117] z8 (ov_up h9 93 x1 x2) (P_fMo_cutAll_90 F z h t m)
                            refine ov_cS (as := [ov_i (t x2__)]) (st := [ov_l w117]) (d2 := d - 1) d_206_111 lk_Mo_163 rfl (Nat.le_of_ble_eq_true rfl) (by omega) (c_fMo_rank (d - 1) (by omega) U I25 (t x2__) (by omega) (by show 97 ≤ (t x2__) ∧ (t x2__) ≤ 122; omega)) ?_
                            rintro _ _ _ ⟨v120, rfl, rfl, rfl, rfl⟩
                            show ov_R u d ov_m206 114 [(0, ov_r 90), (1, ov_i x1), (2, ov_i x2__), (3, ov_i (t x2)), (4, ov_i x2), (5, ov_l x5_)] [ov_i ((t x2__) - 96), ov_l w117] z8 (ov_up h9 93 x1 x2) (P_fMo_cutAll_90 F z h t m)
                            refine ov_blk (ls2 := [(0, ov_r 90), (1, ov_i x1), (2, ov_i x2__), (3, ov_i (t x2)), (4, ov_i x2), (5, ov_l x5_)]) (st2 := [ov_l (ov_w ((t x2__) - 96)), ov_l w117]) (pc2 := 115) b_206_114_1 rfl rfl ?_
                            have g121 := ov_wg ((t x2__) - 96)
                            have g122 := ov_wq ((t x2__) - 96)
                            rw [ov_wq ((t x2__) - 96) (by omega)]
                            show ov_R u d ov_m206 115 [(0, ov_r 90), (1, ov_i x1), (2, ov_i x2__), (3, ov_i (t x2)), (4, ov_i x2), (5, ov_l x5_)] [ov_l ((t x2__) - 96), ov_l w117] z8 (ov_up h9 93 x1 x2) (P_fMo_cutAll_90 F z h t m)
                            refine ov_blk (ls2 := [(0, ov_r 90), (1, ov_i x1), (2, ov_i x2__), (3, ov_i (t x2)), (4, ov_i x2), (5, ov_l x5_)]) (st2 := [ov_l (w117 + ((t x2__) - 96))]) (pc2 := 116) b_206_115_1 rfl rfl ?_
                            refine ov_havl (fun w123 gw123 qw123 => ?_)
                            refine ov_goto (tgt := 121) d_206_116 (by decide) ?_
                            refine ov_blk (ls2 := [(0, ov_r 90), (1, ov_i x1), (2, ov_i (x2__ + 1)), (3, ov_i (t x2)), (4, ov_i x2), (5, ov_l w123)]) (st2 := []) (pc2 := 126) b_206_121_2 rfl rfl ?_
                            refine ov_goto (tgt := 70) d_206_126 (by decide) ?_
                            exact ih90 (x2__ + 1) w123 (show pt_rn pt_lB t m (x2__ + 1) = _ from (pt_rn_s (P := pt_lB) (t := t) (n := m) (p := x2__) (by omega) (pt_lB_t (by omega))).symm.trans ya) (fun j a b => if e : j = x2__ then (by rw [e]; omega) else yr j a (by omega)) (pt_m_step (p := x2) (x := x2__) (by omega) yb yr qw117 qw123 (by omega)) (by show x2 ≤ (x2__ + 1) ∧ (x2__ + 1) ≤ m ∧ -9223372036854775808 ≤ w123 ∧ w123 ≤ 9223372036854775807; omega) (by omega)
                exact L92 1001 x2 0 rfl (fun j a b => by omega) (fun _ => by rw [show Int.toNat (x2 - x2) = 0 by omega]; rfl) (by show x2 ≤ x2 ∧ x2 ≤ m ∧ -9223372036854775808 ≤ 0 ∧ 0 ≤ 9223372036854775807; omega) (by omega)
          · skip
            refine ov_blk (ls2 := [(0, ov_r 90), (1, ov_i x1), (2, ov_i (x2 + 1)), (3, ov_i (t x2))]) (st2 := []) (pc2 := 47) b_206_44_1 rfl rfl ?_
            refine ov_goto (tgt := 17) d_206_47 (by decide) ?_
            refine ov_sub (ls2 := [(0, ov_r 90), (1, ov_i x1), (2, ov_i (x2 + 1))]) (List.Sublist.subset (by repeat (first | exact List.Sublist.refl _ | apply List.Sublist.cons_cons | apply List.Sublist.cons))) ?_
            exact ih5 x1 (x2 + 1) _ _ I10 E11 (fun a ca => (fr12 a ca)) (pt_MP_b xm (by omega) (by omega)) (fun k n0 n1 n2 n3 => (rkl90 k n0 n1 n2 n3)) (by show 0 ≤ x1 ∧ x1 ≤ (x2 + 1) ∧ (x2 + 1) ≤ m ∧ (h9 90 3) = m ∧ (h9 90 2) = 0; omega) (by omega)
  exact L7 1001 0 0 _ _ I3 rfl (fun a ca => Eq.trans (by show (ov_up (ov_up h 90 3 (h 90 2)) 90 2 0) a = h a; rw [ov_up_ne (by omega), ov_up_ne (by omega)]) rfl) pt_MP_0 (fun k n0 n1 n2 n3 => (Eq.trans (by show (ov_up (ov_up h 90 3 (h 90 2)) 90 2 0) 90 k = h 90 k; rw [ov_up_j n0, ov_up_j n1]) rfl)) (by show 0 ≤ 0 ∧ 0 ≤ 0 ∧ 0 ≤ m ∧ (h 90 2) = m ∧ 0 = 0; omega) (by omega)

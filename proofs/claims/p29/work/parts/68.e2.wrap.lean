/-! what stands weaker -/
theorem ov_T_wk {u : ov_U} {d : Nat} {M : ov_M} {as : List ov_V} {z : ov_Z} {h : ov_H} {Q1 Q2 : Option ov_V → ov_Z → ov_H → Prop} (a : ov_T u d M as z h Q1) (k : ∀ r z' h', Q1 r z' h' → Q2 r z' h') : ov_T u d M as z h Q2 := by
  intro hu
  refine MetFree.mono (a hu) (fun _ _ hp => hp) (fun _ _ _ _ _ hk => hk) (fun a st o t _ hq => ?_)
  obtain ⟨⟨r0, z', h', e, q, R1, W1⟩, F1⟩ := hq
  exact ⟨⟨r0, z', h', e, k _ _ _ q, R1, W1⟩, F1⟩
/-- there is one fault -/
theorem pt_ET_f0 (t : Int → Int) (m : Int) : ∃ f0 : Int, ∀ (f : Int) (B : Int → Int), pt_ET t m f B → f = f0 := by
  by_cases q : ∃ (f : Int) (B : Int → Int), pt_ET t m f B
  · obtain ⟨f, B, e⟩ := q
    exact ⟨f, fun f' B' e' => (pt_ET_u e' e).1⟩
  · exact ⟨0, fun f B e => absurd ⟨f, B, e⟩ q⟩
set_option maxHeartbeats 4000000 in
theorem c_OF_feed_0_s {u : ov_U} {F : ov_H} {z : ov_Z} {h : ov_H} (d : Nat) (hd : 1 ≤ d) (U : ov_cap u) (I : ov_I F z h) (hw : ov_kw 6 F) (a b c : Int) : ov_T u d ov_m21 [ov_r 0, ov_l a, ov_l b, ov_l c] z h (fun r0 z' h' => ∃ r : Int, r0 = some (ov_i r) ∧ ov_I F z' h' ∧ (r = (h' 1 1) ∧ (h' 1 1) = ov_fdn c (ov_fdn b (ov_fdn a (h 1 1) 8) 8) 8 ∧ (h' 36 7) = (h 36 7) ∧ (h' 90 2) = (h 90 2) ∧ (h' 0 10) = (h 0 10) ∧ (h' 0 11) = (h 0 11) ∧ (h' 0 12) = (h 0 12) ∧ (h' 0 13) = (h 0 13) ∧ (h' 3 1) = (h 3 1) ∧ (h' 36 8) = (h 36 8) ∧ (h' 46 3) = (h 46 3) ∧ (h' 46 4) = (h 46 4) ∧ (h' 49 4) = (h 49 4) ∧ (h' 49 5) = (h 49 5) ∧ (h' 64 0) = (h 64 0) ∧ (h' 76 0) = (h 76 0)) ∧ h' 2 = ov_fdr c (ov_fdn b (ov_fdn a (h 1 1) 8) 8) (ov_fdr b (ov_fdn a (h 1 1) 8) (ov_fdr a (h 1 1) (h 2) 8) 8) 8) := by
  refine ov_T_wk (c_fOF_feed_0 d hd U I hw a b c) ?_
  rintro r0 z' h' ⟨r, e, I', fr, ar, fd⟩
  exact ⟨r, e, I', ⟨ar.1, ar.2, congrFun (fr 36 (by omega)) 7, congrFun (fr 90 (by omega)) 2, congrFun (fr 0 (by omega)) 10, congrFun (fr 0 (by omega)) 11, congrFun (fr 0 (by omega)) 12, congrFun (fr 0 (by omega)) 13, congrFun (fr 3 (by omega)) 1, congrFun (fr 36 (by omega)) 8, congrFun (fr 46 (by omega)) 3, congrFun (fr 46 (by omega)) 4, congrFun (fr 49 (by omega)) 4, congrFun (fr 49 (by omega)) 5, congrFun (fr 64 (by omega)) 0, congrFun (fr 76 (by omega)) 0⟩, fd⟩
set_option maxHeartbeats 4000000 in
theorem c_Mo_feed_90_s {u : ov_U} {F : ov_H × ov_Z} {z : ov_Z} {h : ov_H} (d : Nat) (hd : 1 ≤ d) (U : ov_cap u) (I : ov_N F z h) (a b c : Int) : ov_T u d ov_m200 [ov_r 90, ov_l a, ov_l b, ov_l c] z h (fun r0 z' h' => ∃ r : Int, r0 = some (ov_i r) ∧ ov_N F z' h' ∧ ((h' 90 7) = (h 90 7) ∧ (h' 90 8) = (h 90 8) ∧ (h' 90 13) = (h 90 13) ∧ (h' 90 20) = (h 90 20) ∧ (h' 90 22) = (h 90 22) ∧ (h' 90 25) = (h 90 25) ∧ (h' 90 26) = (h 90 26) ∧ (h' 90 28) = (h 90 28) ∧ (h' 90 29) = (h 90 29) ∧ (h' 90 30) = (h 90 30) ∧ (h' 90 34) = (h 90 34) ∧ r = (h' 90 2) ∧ (h' 90 2) = ov_fdn c (ov_fdn b (ov_fdn a (h 90 2) 8) 8) 8) ∧ h' 92 = h 92 ∧ h' 93 = h 93 ∧ h' 94 = h 94 ∧ h' 95 = h 95 ∧ h' 96 = h 96 ∧ h' 97 = h 97 ∧ h' 98 = h 98 ∧ h' 99 = h 99 ∧ h' 100 = h 100 ∧ h' 103 = h 103 ∧ h' 104 = h 104 ∧ h' 105 = h 105 ∧ h' 106 = h 106 ∧ h' 109 = h 109 ∧ h' 114 = h 114 ∧ h' 91 = ov_fdr c (ov_fdn b (ov_fdn a (h 90 2) 8) 8) (ov_fdr b (ov_fdn a (h 90 2) 8) (ov_fdr a (h 90 2) (h 91) 8) 8) 8) := by
  refine ov_T_wk (c_fMo_feed_90 d hd U I a b c) ?_
  rintro r0 z' h' ⟨r, e, I', fr, ar, fd, rk⟩
  exact ⟨r, e, I', ⟨rk 7 (by decide) (by decide), rk 8 (by decide) (by decide), rk 13 (by decide) (by decide), rk 20 (by decide) (by decide), rk 22 (by decide) (by decide), rk 25 (by decide) (by decide), rk 26 (by decide) (by decide), rk 28 (by decide) (by decide), rk 29 (by decide) (by decide), rk 30 (by decide) (by decide), rk 34 (by decide) (by decide), ar.1, ar.2⟩, fr 92 (by omega), fr 93 (by omega), fr 94 (by omega), fr 95 (by omega), fr 96 (by omega), fr 97 (by omega), fr 98 (by omega), fr 99 (by omega), fr 100 (by omega), fr 103 (by omega), fr 104 (by omega), fr 105 (by omega), fr 106 (by omega), fr 109 (by omega), fr 114 (by omega), fd⟩
abbrev P_Reader_readTown_3_58_s (f0 : Int) (F : ov_H) (z : ov_Z) (h : ov_H) : Option ov_V → ov_Z → ov_H → Prop := fun r0 z' h' => ∃ r : Int, r0 = some (ov_i r) ∧ ov_I F z' h' ∧ ((h' 1 1) = 0 ∧ -2147483648 ≤ r ∧ r ≤ 2147483647 ∧ (r = 0 → 0 ≤ (h' 64 0)) ∧ 1 ≤ (h' 58 0) ∧ 1 ≤ (h' 58 1) ∧ r = f0 ∧ (h' 36 7) = (h 36 7) ∧ (h' 90 2) = (h 90 2) ∧ (h' 0 10) = (h 0 10) ∧ (h' 0 11) = (h 0 11) ∧ (h' 0 12) = (h 0 12) ∧ (h' 0 13) = (h 0 13) ∧ (h' 36 8) = (h 36 8) ∧ (h' 46 3) = (h 46 3) ∧ (h' 46 4) = (h 46 4) ∧ (h' 49 4) = (h 49 4) ∧ (h' 49 5) = (h 49 5) ∧ (h' 76 0) = (h 76 0))
set_option maxHeartbeats 4000000 in
theorem c_Reader_readTown_3_58_s {u : ov_U} {F : ov_H} (t : Int → Int) (m f0 : Int) (hf : ∀ (f : Int) (B : Int → Int), pt_ET t m f B → f = f0) {z : ov_Z} {h : ov_H} (et : h 2 = t) (em : h 1 1 = m) (d : Nat) (hd : 42 ≤ d) (U : ov_cap u) (I : ov_I F z h) (hw : ov_kw 590007579982553939978 F) : ov_T u d ov_m24 [ov_r 3, ov_r 58] z h (P_Reader_readTown_3_58_s f0 F z h) := by
  have gm := rg_1_1 I
  refine ov_T_wk (ov_T_ri (X := fun r => r = f0) (Q1 := fun r z' h' => ov_I F z' h' ∧ ((h' 1 1) = 0 ∧ -2147483648 ≤ r ∧ r ≤ 2147483647 ∧ (r = 0 → 0 ≤ (h' 64 0)) ∧ 1 ≤ (h' 58 0) ∧ 1 ≤ (h' 58 1) ∧ (h' 36 7) = (h 36 7) ∧ (h' 90 2) = (h 90 2) ∧ (h' 0 10) = (h 0 10) ∧ (h' 0 11) = (h 0 11) ∧ (h' 0 12) = (h 0 12) ∧ (h' 0 13) = (h 0 13) ∧ (h' 36 8) = (h 36 8) ∧ (h' 46 3) = (h 46 3) ∧ (h' 46 4) = (h 46 4) ∧ (h' 49 4) = (h 49 4) ∧ (h' 49 5) = (h 49 5) ∧ (h' 76 0) = (h 76 0))) (c_Reader_readTown_3_58 d hd U I (ov_kws hw (by decide +kernel))) (fun r z' h' q => ?_) (c_fReader_readTown_3_58 t m d hd U I (ov_kws hw (by decide +kernel)) em (by omega) et) (fun r z' h' q => ?_)) ?_
  · have f := q.2
    omega
  · obtain ⟨-, -, B, ar, tw, -⟩ := q
    exact ⟨by omega, hf r B tw⟩
  · rintro r0 z' h' ⟨r, e, ⟨I', f⟩, x⟩
    have x2 : r = f0 := x
    exact ⟨r, e, I', by omega⟩
abbrev P_Reader_readTown_3_70_s (f0 : Int) (F : ov_H) (z : ov_Z) (h : ov_H) : Option ov_V → ov_Z → ov_H → Prop := fun r0 z' h' => ∃ r : Int, r0 = some (ov_i r) ∧ ov_I F z' h' ∧ ((h' 1 1) = 0 ∧ -2147483648 ≤ r ∧ r ≤ 2147483647 ∧ (r = 0 → 0 ≤ (h' 76 0)) ∧ 1 ≤ (h' 70 0) ∧ 1 ≤ (h' 70 1) ∧ r = f0 ∧ (h' 36 7) = (h 36 7) ∧ (h' 90 2) = (h 90 2) ∧ (h' 0 10) = (h 0 10) ∧ (h' 0 11) = (h 0 11) ∧ (h' 0 12) = (h 0 12) ∧ (h' 0 13) = (h 0 13) ∧ (h' 36 8) = (h 36 8) ∧ (h' 46 3) = (h 46 3) ∧ (h' 46 4) = (h 46 4) ∧ (h' 49 4) = (h 49 4) ∧ (h' 49 5) = (h 49 5) ∧ (h' 64 0) = (h 64 0))
set_option maxHeartbeats 4000000 in
theorem c_Reader_readTown_3_70_s {u : ov_U} {F : ov_H} (t : Int → Int) (m f0 : Int) (hf : ∀ (f : Int) (B : Int → Int), pt_ET t m f B → f = f0) {z : ov_Z} {h : ov_H} (et : h 2 = t) (em : h 1 1 = m) (d : Nat) (hd : 42 ≤ d) (U : ov_cap u) (I : ov_I F z h) (hw : ov_kw 2416671047608540938108938 F) : ov_T u d ov_m24 [ov_r 3, ov_r 70] z h (P_Reader_readTown_3_70_s f0 F z h) := by
  have gm := rg_1_1 I
  refine ov_T_wk (ov_T_ri (X := fun r => r = f0) (Q1 := fun r z' h' => ov_I F z' h' ∧ ((h' 1 1) = 0 ∧ -2147483648 ≤ r ∧ r ≤ 2147483647 ∧ (r = 0 → 0 ≤ (h' 76 0)) ∧ 1 ≤ (h' 70 0) ∧ 1 ≤ (h' 70 1) ∧ (h' 36 7) = (h 36 7) ∧ (h' 90 2) = (h 90 2) ∧ (h' 0 10) = (h 0 10) ∧ (h' 0 11) = (h 0 11) ∧ (h' 0 12) = (h 0 12) ∧ (h' 0 13) = (h 0 13) ∧ (h' 36 8) = (h 36 8) ∧ (h' 46 3) = (h 46 3) ∧ (h' 46 4) = (h 46 4) ∧ (h' 49 4) = (h 49 4) ∧ (h' 49 5) = (h 49 5) ∧ (h' 64 0) = (h 64 0))) (c_Reader_readTown_3_70 d hd U I (ov_kws hw (by decide +kernel))) (fun r z' h' q => ?_) (c_fReader_readTown_3_70 t m d hd U I (ov_kws hw (by decide +kernel)) em (by omega) et) (fun r z' h' q => ?_)) ?_
  · have f := q.2
    omega
  · obtain ⟨-, -, B, ar, tw, -⟩ := q
    exact ⟨by omega, hf r B tw⟩
  · rintro r0 z' h' ⟨r, e, ⟨I', f⟩, x⟩
    have x2 : r = f0 := x
    exact ⟨r, e, I', by omega⟩

abbrev P_OF_town_0_s (f0 : Int) (F : ov_H) (z : ov_Z) (h : ov_H)  : Option ov_V → ov_Z → ov_H → Prop := fun r0 z' h' => ∃ r : Int, r0 = some (ov_i r) ∧ ov_I F z' h' ∧ ((h' 1 1) = 0 ∧ ((h' 36 7) = 1 → (h' 36 8) = (h' 0 10)) ∧ ((h' 0 10) = 58 ∧ (h' 0 11) = 70 ∧ 0 ≤ (h' 64 0) ∧ 1 ≤ (h' 58 0) ∧ 1 ≤ (h' 58 1) ∨ (h' 0 10) = 70 ∧ (h' 0 11) = 58 ∧ 0 ≤ (h' 76 0) ∧ 1 ≤ (h' 70 0) ∧ 1 ≤ (h' 70 1)) ∧ r = f0 ∧ (h' 90 2) = (h 90 2) ∧ (h' 0 12) = (h 0 12) ∧ (h' 0 13) = (h 0 13) ∧ (h' 46 3) = (h 46 3) ∧ (h' 46 4) = (h 46 4) ∧ (h' 49 4) = (h 49 4) ∧ (h' 49 5) = (h 49 5))
set_option maxHeartbeats 4000000 in
theorem c_OF_town_0_s {u : ov_U} {F : ov_H} (t : Int → Int) (m f0 : Int) (hf : ∀ (f : Int) (B : Int → Int), pt_ET t m f B → f = f0) {z : ov_Z} {h : ov_H} (d : Nat) (hd : 50 ≤ d) (U : ov_cap u) (I : ov_I F z h) (hw : ov_kw 84624216788983341731807771 F) (p0 : h 36 7 = 1 → h 36 8 = h 0 10) (p1 : (h 0 10 = 58 ∧ h 0 11 = 70 ∧ 0 ≤ h 64 0 ∧ F (-5) 58 = 1 ∨ h 0 10 = 70 ∧ h 0 11 = 58 ∧ 0 ≤ h 76 0 ∧ F (-5) 70 = 1)) (et : h 2 = t) (em : h 1 1 = m) : ov_T u d ov_m23 [ov_r 0] z h (P_OF_town_0_s f0 F z h) := by
  refine ov_en rfl (Nat.le_of_ble_eq_true rfl) ?_
  show ov_R u d ov_m23 0 [(0, ov_r 0)] [] z h (P_OF_town_0_s f0 F z h)
  refine ov_blk (ls2 := [(0, ov_r 0)]) (st2 := [ov_r 0]) (pc2 := 1) b_23_0_1 rfl rfl ?_
  refine ov_getf (v := ov_r 3) d_23_1 fl_OF_21 (zb_0 I) (zs_0 I) (congrArg ov_r (rg_0_1 I)) ?_
  refine ov_blk (ls2 := [(0, ov_r 0)]) (st2 := [ov_r 0, ov_r 3]) (pc2 := 5) b_23_4_1 rfl rfl ?_
  rcases rg_0_11 I with e1 | e1
  · skip
    refine ov_getf (v := ov_r 58) d_23_5 fl_OF_82 (zb_0 I) (zs_0 I) (congrArg ov_r e1) ?_
    refine ov_cV (as := [ov_r 58]) (st := []) (d2 := d - 1) d_23_8 lk_OF_109 rfl (Nat.le_of_ble_eq_true rfl) (c := 6) (zb_3 I) (zs_3 I) ⟨by decide, rfl⟩ (by omega) (c_Reader_readTown_3_58_s t m f0 hf et em (d - 1) (by omega) U I (ov_kws hw (by decide +kernel))) ?_
    rintro _ z4 h5 ⟨v3, rfl, I6, f2⟩
    show ov_R u d ov_m23 11 [(0, ov_r 0)] [ov_i v3] z4 h5 (P_OF_town_0_s f0 F z h)
    have f7 : (h5 1 1) = 0 ∧ -2147483648 ≤ v3 ∧ v3 ≤ 2147483647 ∧ (v3 = 0 → 0 ≤ (h5 64 0)) ∧ 1 ≤ (h5 58 0) ∧ 1 ≤ (h5 58 1) ∧ v3 = f0 ∧ (h5 36 7) = (h 36 7) ∧ (h5 90 2) = (h 90 2) ∧ (h5 0 10) = (h 0 10) ∧ (h5 0 11) = (h 0 11) ∧ (h5 0 12) = (h 0 12) ∧ (h5 0 13) = (h 0 13) ∧ (h5 36 8) = (h 36 8) ∧ (h5 46 3) = (h 46 3) ∧ (h5 46 4) = (h 46 4) ∧ (h5 49 4) = (h 49 4) ∧ (h5 49 5) = (h 49 5) ∧ (h5 76 0) = (h 76 0) := f2
    clear f2
    have e8 : h5 0 11 = 58 := by omega
    have I9 := ov_I_fu (T := 58) I6 (by omega)
    refine ov_blk (ls2 := [(0, ov_r 0), (1, ov_i v3)]) (st2 := [ov_i v3]) (pc2 := 13) b_23_11_2 rfl rfl ?_
    refine ov_ifne (tgt := 63) d_23_13 (by decide) (by omega) (fun c10 => ?_) (fun c10 => ?_)
    · skip
      refine ov_blk (ls2 := [(0, ov_r 0), (1, ov_i v3)]) (st2 := [ov_i v3]) (pc2 := 64) b_23_63_1 rfl rfl ?_
      have gf11 : 1 ≤ (h5 58 0) ∧ 1 ≤ (h5 58 1) := ov_I_fg (h := h5) (T := 58) (by omega) I9
      have gk : F (-5) 70 = 1 := by omega
      have gf12 : 1 ≤ (h5 70 0) ∧ 1 ≤ (h5 70 1) := ov_I_fk (h := h5) (S := 70) (by omega) I9 gk
      exact ov_reti (st := []) d_23_64 rfl ⟨_, rfl, (ov_I_fd I9), (by show (h5 1 1) = 0 ∧ ((h5 36 7) = 1 → (h5 36 8) = (h5 0 10)) ∧ ((h5 0 10) = 58 ∧ (h5 0 11) = 70 ∧ 0 ≤ (h5 64 0) ∧ 1 ≤ (h5 58 0) ∧ 1 ≤ (h5 58 1) ∨ (h5 0 10) = 70 ∧ (h5 0 11) = 58 ∧ 0 ≤ (h5 76 0) ∧ 1 ≤ (h5 70 0) ∧ 1 ≤ (h5 70 1)) ∧ v3 = f0 ∧ (h5 90 2) = (h 90 2) ∧ (h5 0 12) = (h 0 12) ∧ (h5 0 13) = (h 0 13) ∧ (h5 46 3) = (h 46 3) ∧ (h5 46 4) = (h 46 4) ∧ (h5 49 4) = (h 49 4) ∧ (h5 49 5) = (h 49 5); omega)⟩
    · skip
      refine ov_blk (ls2 := [(0, ov_r 0), (1, ov_i v3)]) (st2 := [ov_r 0]) (pc2 := 17) b_23_16_1 rfl rfl ?_
      rcases rg_0_10 I9 with e13 | e13
      · skip
        refine ov_getf (v := ov_r 58) d_23_17 fl_OF_78 (zb_0 I9) (zs_0 I9) (congrArg ov_r e13) ?_
        refine ov_blk (ls2 := [(0, ov_r 0), (1, ov_i v3), (2, ov_r 58)]) (st2 := [ov_r 0, ov_r 0]) (pc2 := 23) b_23_20_3 rfl rfl ?_
        refine ov_getf (v := ov_r 58) d_23_23 fl_OF_82 (zb_0 I9) (zs_0 I9) (congrArg ov_r e8) ?_
        refine ov_putf (x := 58) d_23_26 fl_OF_78 (zb_0 I9) (zs_0 I9) rfl nk_2 rfl ?_
        have I14 := up_0_10 (x := 58) I9 (by omega) ((ov_kwu hw) 0 (by decide +kernel))
        refine ov_blk (ls2 := [(0, ov_r 0), (1, ov_i v3), (2, ov_r 58)]) (st2 := [ov_r 58, ov_r 0]) (pc2 := 31) b_23_29_2 rfl rfl ?_
        refine ov_putf (x := 58) d_23_31 fl_OF_82 (zb_0 I14) (zs_0 I14) rfl nk_2 rfl ?_
        have I15 := up_0_11 (x := 58) I14 (by omega) ((ov_kwu hw) 0 (by decide +kernel))
        refine ov_blk (ls2 := [(0, ov_r 0), (1, ov_i v3), (2, ov_r 58)]) (st2 := [ov_r 0]) (pc2 := 35) b_23_34_1 rfl rfl ?_
        rcases rg_0_12 I9 with e16 | e16
        · skip
          refine ov_getf (v := ov_r 82) d_23_35 fl_OF_88 (zb_0 I15) (zs_0 I15) (congrArg ov_r e16) ?_
          refine ov_cV (as := []) (st := []) (d2 := d - 1) d_23_38 lk_OF_113 rfl (Nat.le_of_ble_eq_true rfl) (c := 10) (zb_82 I15) (zs_82 I15) ⟨by decide, rfl⟩ (by omega) (c_Walk_clear_82 (d - 1) (by omega) U I15 (ov_kws (ov_kwu hw) (by decide +kernel))) ?_
          rintro _ z18 h19 ⟨rfl, I20, f17⟩
          show ov_R u d ov_m23 41 [(0, ov_r 0), (1, ov_i v3), (2, ov_r 58)] [] z18 h19 (P_OF_town_0_s f0 F z h)
          have f21 : (h19 36 7) = (h5 36 7) ∧ (h19 1 1) = (h5 1 1) ∧ (h19 90 2) = (h5 90 2) ∧ (h19 0 10) = 58 ∧ (h19 0 11) = 58 ∧ (h19 0 12) = (h5 0 12) ∧ (h19 0 13) = (h5 0 13) ∧ (h19 3 1) = (h5 3 1) ∧ (h19 36 8) = (h5 36 8) ∧ (h19 46 3) = (h5 46 3) ∧ (h19 46 4) = (h5 46 4) ∧ (h19 49 4) = (h5 49 4) ∧ (h19 49 5) = (h5 49 5) ∧ (h19 64 0) = (h5 64 0) ∧ (h19 76 0) = (h5 76 0) := f17
          clear f17
          have e22 : h19 0 10 = 58 := by omega
          have e23 : h19 0 11 = 58 := by omega
          have e24 : h19 0 12 = 82 := by omega
          refine ov_blk (ls2 := [(0, ov_r 0), (1, ov_i v3), (2, ov_r 58)]) (st2 := [ov_r 0]) (pc2 := 42) b_23_41_1 rfl rfl ?_
          refine ov_getf (v := ov_r 4) d_23_42 fl_OF_28 (zb_0 I20) (zs_0 I20) (congrArg ov_r (rg_0_2 I20)) ?_
          refine ov_cV (as := []) (st := []) (d2 := d - 1) d_23_45 lk_OF_114 rfl (Nat.le_of_ble_eq_true rfl) (c := 7) (zb_4 I20) (zs_4 I20) ⟨by decide, rfl⟩ (by omega) (c_State_clear_4 (d - 1) (by omega) U I20 (ov_kws (ov_kwu hw) (by decide +kernel))) ?_
          rintro _ z26 h27 ⟨rfl, I28, f25⟩
          show ov_R u d ov_m23 48 [(0, ov_r 0), (1, ov_i v3), (2, ov_r 58)] [] z26 h27 (P_OF_town_0_s f0 F z h)
          have f29 : (h27 36 7) = (h19 36 7) ∧ (h27 1 1) = (h19 1 1) ∧ (h27 90 2) = (h19 90 2) ∧ (h27 0 10) = (h19 0 10) ∧ (h27 0 11) = (h19 0 11) ∧ (h27 0 12) = (h19 0 12) ∧ (h27 0 13) = (h19 0 13) ∧ (h27 3 1) = (h19 3 1) ∧ (h27 36 8) = (h19 36 8) ∧ (h27 46 3) = (h19 46 3) ∧ (h27 46 4) = (h19 46 4) ∧ (h27 49 4) = (h19 49 4) ∧ (h27 49 5) = (h19 49 5) ∧ (h27 64 0) = (h19 64 0) ∧ (h27 76 0) = (h19 76 0) := f25
          clear f25
          have e30 : h27 0 10 = 58 := by omega
          have e31 : h27 0 11 = 58 := by omega
          have e32 : h27 0 12 = 82 := by omega
          refine ov_blk (ls2 := [(0, ov_r 0), (1, ov_i v3), (2, ov_r 58)]) (st2 := [ov_r 0]) (pc2 := 49) b_23_48_1 rfl rfl ?_
          refine ov_getf (v := ov_r 9) d_23_49 fl_OF_35 (zb_0 I28) (zs_0 I28) (congrArg ov_r (rg_0_3 I28)) ?_
          refine ov_cV (as := []) (st := []) (d2 := d - 1) d_23_52 lk_OF_115 rfl (Nat.le_of_ble_eq_true rfl) (c := 3) (zb_9 I28) (zs_9 I28) ⟨by decide, rfl⟩ (by omega) (c_History_clear_9 (d - 1) (by omega) U I28 (ov_kws (ov_kwu hw) (by decide +kernel))) ?_
          rintro _ z34 h35 ⟨rfl, I36, f33⟩
          show ov_R u d ov_m23 55 [(0, ov_r 0), (1, ov_i v3), (2, ov_r 58)] [] z34 h35 (P_OF_town_0_s f0 F z h)
          have f37 : (h35 36 7) = (h27 36 7) ∧ (h35 1 1) = (h27 1 1) ∧ (h35 90 2) = (h27 90 2) ∧ (h35 0 10) = (h27 0 10) ∧ (h35 0 11) = (h27 0 11) ∧ (h35 0 12) = (h27 0 12) ∧ (h35 0 13) = (h27 0 13) ∧ (h35 3 1) = (h27 3 1) ∧ (h35 36 8) = (h27 36 8) ∧ (h35 46 3) = (h27 46 3) ∧ (h35 46 4) = (h27 46 4) ∧ (h35 49 4) = (h27 49 4) ∧ (h35 49 5) = (h27 49 5) ∧ (h35 64 0) = (h27 64 0) ∧ (h35 76 0) = (h27 76 0) := f33
          clear f33
          have e38 : h35 0 10 = 58 := by omega
          have e39 : h35 0 11 = 58 := by omega
          have e40 : h35 0 12 = 82 := by omega
          refine ov_blk (ls2 := [(0, ov_r 0), (1, ov_i v3), (2, ov_r 58)]) (st2 := [ov_r 0]) (pc2 := 56) b_23_55_1 rfl rfl ?_
          refine ov_cV (as := []) (st := []) (d2 := d - 1) d_23_56 lk_OF_116 rfl (Nat.le_of_ble_eq_true rfl) (c := 0) (zb_0 I36) (zs_0 I36) ⟨by decide, rfl⟩ (by omega) (c_OF_forgetMarks_0 (d - 1) (by omega) U I36 (ov_kws (ov_kwu hw) (by decide +kernel))) ?_
          rintro _ z42 h43 ⟨rfl, I44, f41⟩
          show ov_R u d ov_m23 59 [(0, ov_r 0), (1, ov_i v3), (2, ov_r 58)] [] z42 h43 (P_OF_town_0_s f0 F z h)
          have f45 : (h43 36 7) = (h35 36 7) ∧ (h43 1 1) = (h35 1 1) ∧ (h43 90 2) = (h35 90 2) ∧ (h43 0 10) = (h35 0 10) ∧ (h43 0 11) = (h35 0 11) ∧ (h43 0 12) = (h35 0 12) ∧ (h43 0 13) = (h35 0 13) ∧ (h43 3 1) = (h35 3 1) ∧ (h43 36 8) = (h35 36 8) ∧ (h43 46 3) = (h35 46 3) ∧ (h43 46 4) = (h35 46 4) ∧ (h43 49 4) = (h35 49 4) ∧ (h43 49 5) = (h35 49 5) ∧ (h43 64 0) = (h35 64 0) ∧ (h43 76 0) = (h35 76 0) := f41
          clear f41
          have e46 : h43 0 10 = 58 := by omega
          have e47 : h43 0 11 = 58 := by omega
          have e48 : h43 0 12 = 82 := by omega
          refine ov_blk (ls2 := [(0, ov_r 0), (1, ov_i v3), (2, ov_r 58)]) (st2 := [ov_r 0]) (pc2 := 60) b_23_59_1 rfl rfl ?_
          refine ov_cV (as := []) (st := []) (d2 := d - 1) d_23_60 lk_OF_119 rfl (Nat.le_of_ble_eq_true rfl) (c := 0) (zb_0 I44) (zs_0 I44) ⟨by decide, rfl⟩ (by omega) (c_OF_forgetReckonings_0 (d - 1) (by omega) U I44) ?_
          rintro _ z50 h51 ⟨rfl, I52, f49⟩
          show ov_R u d ov_m23 63 [(0, ov_r 0), (1, ov_i v3), (2, ov_r 58)] [] z50 h51 (P_OF_town_0_s f0 F z h)
          have f53 : (h51 36 7) = 0 ∧ (h51 1 1) = (h43 1 1) ∧ (h51 90 2) = (h43 90 2) ∧ (h51 0 10) = (h43 0 10) ∧ (h51 0 11) = (h43 0 11) ∧ (h51 0 12) = (h43 0 12) ∧ (h51 0 13) = (h43 0 13) ∧ (h51 3 1) = (h43 3 1) ∧ (h51 36 8) = (h43 36 8) ∧ (h51 46 3) = (h43 46 3) ∧ (h51 46 4) = (h43 46 4) ∧ (h51 49 4) = (h43 49 4) ∧ (h51 49 5) = (h43 49 5) ∧ (h51 64 0) = (h43 64 0) ∧ (h51 76 0) = (h43 76 0) := f49
          clear f49
          have e54 : h51 0 10 = 58 := by omega
          have e55 : h51 0 11 = 58 := by omega
          have e56 : h51 0 12 = 82 := by omega
          refine ov_blk (ls2 := [(0, ov_r 0), (1, ov_i v3), (2, ov_r 58)]) (st2 := [ov_i v3]) (pc2 := 64) b_23_63_1 rfl rfl ?_
          have gf57 : 1 ≤ (h51 58 0) ∧ 1 ≤ (h51 58 1) := ov_I_fg (h := h51) (T := 58) (by omega) I52
          have gk : F (-5) 70 = 1 := by omega
          have gf58 : 1 ≤ (h51 70 0) ∧ 1 ≤ (h51 70 1) := ov_I_fk (h := h51) (S := 70) (by omega) I52 gk
          exact ov_reti (st := []) d_23_64 rfl ⟨_, rfl, (ov_I_fd I52), (by show (h51 1 1) = 0 ∧ ((h51 36 7) = 1 → (h51 36 8) = (h51 0 10)) ∧ ((h51 0 10) = 58 ∧ (h51 0 11) = 70 ∧ 0 ≤ (h51 64 0) ∧ 1 ≤ (h51 58 0) ∧ 1 ≤ (h51 58 1) ∨ (h51 0 10) = 70 ∧ (h51 0 11) = 58 ∧ 0 ≤ (h51 76 0) ∧ 1 ≤ (h51 70 0) ∧ 1 ≤ (h51 70 1)) ∧ v3 = f0 ∧ (h51 90 2) = (h 90 2) ∧ (h51 0 12) = (h 0 12) ∧ (h51 0 13) = (h 0 13) ∧ (h51 46 3) = (h 46 3) ∧ (h51 46 4) = (h 46 4) ∧ (h51 49 4) = (h 49 4) ∧ (h51 49 5) = (h 49 5); omega)⟩
        · skip
          refine ov_getf (v := ov_r 86) d_23_35 fl_OF_88 (zb_0 I15) (zs_0 I15) (congrArg ov_r e16) ?_
          refine ov_cV (as := []) (st := []) (d2 := d - 1) d_23_38 lk_OF_113 rfl (Nat.le_of_ble_eq_true rfl) (c := 10) (zb_86 I15) (zs_86 I15) ⟨by decide, rfl⟩ (by omega) (c_Walk_clear_86 (d - 1) (by omega) U I15 (ov_kws (ov_kwu hw) (by decide +kernel))) ?_
          rintro _ z60 h61 ⟨rfl, I62, f59⟩
          show ov_R u d ov_m23 41 [(0, ov_r 0), (1, ov_i v3), (2, ov_r 58)] [] z60 h61 (P_OF_town_0_s f0 F z h)
          have f63 : (h61 36 7) = (h5 36 7) ∧ (h61 1 1) = (h5 1 1) ∧ (h61 90 2) = (h5 90 2) ∧ (h61 0 10) = 58 ∧ (h61 0 11) = 58 ∧ (h61 0 12) = (h5 0 12) ∧ (h61 0 13) = (h5 0 13) ∧ (h61 3 1) = (h5 3 1) ∧ (h61 36 8) = (h5 36 8) ∧ (h61 46 3) = (h5 46 3) ∧ (h61 46 4) = (h5 46 4) ∧ (h61 49 4) = (h5 49 4) ∧ (h61 49 5) = (h5 49 5) ∧ (h61 64 0) = (h5 64 0) ∧ (h61 76 0) = (h5 76 0) := f59
          clear f59
          have e64 : h61 0 10 = 58 := by omega
          have e65 : h61 0 11 = 58 := by omega
          have e66 : h61 0 12 = 86 := by omega
          refine ov_blk (ls2 := [(0, ov_r 0), (1, ov_i v3), (2, ov_r 58)]) (st2 := [ov_r 0]) (pc2 := 42) b_23_41_1 rfl rfl ?_
          refine ov_getf (v := ov_r 4) d_23_42 fl_OF_28 (zb_0 I62) (zs_0 I62) (congrArg ov_r (rg_0_2 I62)) ?_
          refine ov_cV (as := []) (st := []) (d2 := d - 1) d_23_45 lk_OF_114 rfl (Nat.le_of_ble_eq_true rfl) (c := 7) (zb_4 I62) (zs_4 I62) ⟨by decide, rfl⟩ (by omega) (c_State_clear_4 (d - 1) (by omega) U I62 (ov_kws (ov_kwu hw) (by decide +kernel))) ?_
          rintro _ z68 h69 ⟨rfl, I70, f67⟩
          show ov_R u d ov_m23 48 [(0, ov_r 0), (1, ov_i v3), (2, ov_r 58)] [] z68 h69 (P_OF_town_0_s f0 F z h)
          have f71 : (h69 36 7) = (h61 36 7) ∧ (h69 1 1) = (h61 1 1) ∧ (h69 90 2) = (h61 90 2) ∧ (h69 0 10) = (h61 0 10) ∧ (h69 0 11) = (h61 0 11) ∧ (h69 0 12) = (h61 0 12) ∧ (h69 0 13) = (h61 0 13) ∧ (h69 3 1) = (h61 3 1) ∧ (h69 36 8) = (h61 36 8) ∧ (h69 46 3) = (h61 46 3) ∧ (h69 46 4) = (h61 46 4) ∧ (h69 49 4) = (h61 49 4) ∧ (h69 49 5) = (h61 49 5) ∧ (h69 64 0) = (h61 64 0) ∧ (h69 76 0) = (h61 76 0) := f67
          clear f67
          have e72 : h69 0 10 = 58 := by omega
          have e73 : h69 0 11 = 58 := by omega
          have e74 : h69 0 12 = 86 := by omega
          refine ov_blk (ls2 := [(0, ov_r 0), (1, ov_i v3), (2, ov_r 58)]) (st2 := [ov_r 0]) (pc2 := 49) b_23_48_1 rfl rfl ?_
          refine ov_getf (v := ov_r 9) d_23_49 fl_OF_35 (zb_0 I70) (zs_0 I70) (congrArg ov_r (rg_0_3 I70)) ?_
          refine ov_cV (as := []) (st := []) (d2 := d - 1) d_23_52 lk_OF_115 rfl (Nat.le_of_ble_eq_true rfl) (c := 3) (zb_9 I70) (zs_9 I70) ⟨by decide, rfl⟩ (by omega) (c_History_clear_9 (d - 1) (by omega) U I70 (ov_kws (ov_kwu hw) (by decide +kernel))) ?_
          rintro _ z76 h77 ⟨rfl, I78, f75⟩
          show ov_R u d ov_m23 55 [(0, ov_r 0), (1, ov_i v3), (2, ov_r 58)] [] z76 h77 (P_OF_town_0_s f0 F z h)
          have f79 : (h77 36 7) = (h69 36 7) ∧ (h77 1 1) = (h69 1 1) ∧ (h77 90 2) = (h69 90 2) ∧ (h77 0 10) = (h69 0 10) ∧ (h77 0 11) = (h69 0 11) ∧ (h77 0 12) = (h69 0 12) ∧ (h77 0 13) = (h69 0 13) ∧ (h77 3 1) = (h69 3 1) ∧ (h77 36 8) = (h69 36 8) ∧ (h77 46 3) = (h69 46 3) ∧ (h77 46 4) = (h69 46 4) ∧ (h77 49 4) = (h69 49 4) ∧ (h77 49 5) = (h69 49 5) ∧ (h77 64 0) = (h69 64 0) ∧ (h77 76 0) = (h69 76 0) := f75
          clear f75
          have e80 : h77 0 10 = 58 := by omega
          have e81 : h77 0 11 = 58 := by omega
          have e82 : h77 0 12 = 86 := by omega
          refine ov_blk (ls2 := [(0, ov_r 0), (1, ov_i v3), (2, ov_r 58)]) (st2 := [ov_r 0]) (pc2 := 56) b_23_55_1 rfl rfl ?_
          refine ov_cV (as := []) (st := []) (d2 := d - 1) d_23_56 lk_OF_116 rfl (Nat.le_of_ble_eq_true rfl) (c := 0) (zb_0 I78) (zs_0 I78) ⟨by decide, rfl⟩ (by omega) (c_OF_forgetMarks_0 (d - 1) (by omega) U I78 (ov_kws (ov_kwu hw) (by decide +kernel))) ?_
          rintro _ z84 h85 ⟨rfl, I86, f83⟩
          show ov_R u d ov_m23 59 [(0, ov_r 0), (1, ov_i v3), (2, ov_r 58)] [] z84 h85 (P_OF_town_0_s f0 F z h)
          have f87 : (h85 36 7) = (h77 36 7) ∧ (h85 1 1) = (h77 1 1) ∧ (h85 90 2) = (h77 90 2) ∧ (h85 0 10) = (h77 0 10) ∧ (h85 0 11) = (h77 0 11) ∧ (h85 0 12) = (h77 0 12) ∧ (h85 0 13) = (h77 0 13) ∧ (h85 3 1) = (h77 3 1) ∧ (h85 36 8) = (h77 36 8) ∧ (h85 46 3) = (h77 46 3) ∧ (h85 46 4) = (h77 46 4) ∧ (h85 49 4) = (h77 49 4) ∧ (h85 49 5) = (h77 49 5) ∧ (h85 64 0) = (h77 64 0) ∧ (h85 76 0) = (h77 76 0) := f83
          clear f83
          have e88 : h85 0 10 = 58 := by omega
          have e89 : h85 0 11 = 58 := by omega
          have e90 : h85 0 12 = 86 := by omega
          refine ov_blk (ls2 := [(0, ov_r 0), (1, ov_i v3), (2, ov_r 58)]) (st2 := [ov_r 0]) (pc2 := 60) b_23_59_1 rfl rfl ?_
          refine ov_cV (as := []) (st := []) (d2 := d - 1) d_23_60 lk_OF_119 rfl (Nat.le_of_ble_eq_true rfl) (c := 0) (zb_0 I86) (zs_0 I86) ⟨by decide, rfl⟩ (by omega) (c_OF_forgetReckonings_0 (d - 1) (by omega) U I86) ?_
          rintro _ z92 h93 ⟨rfl, I94, f91⟩
          show ov_R u d ov_m23 63 [(0, ov_r 0), (1, ov_i v3), (2, ov_r 58)] [] z92 h93 (P_OF_town_0_s f0 F z h)
          have f95 : (h93 36 7) = 0 ∧ (h93 1 1) = (h85 1 1) ∧ (h93 90 2) = (h85 90 2) ∧ (h93 0 10) = (h85 0 10) ∧ (h93 0 11) = (h85 0 11) ∧ (h93 0 12) = (h85 0 12) ∧ (h93 0 13) = (h85 0 13) ∧ (h93 3 1) = (h85 3 1) ∧ (h93 36 8) = (h85 36 8) ∧ (h93 46 3) = (h85 46 3) ∧ (h93 46 4) = (h85 46 4) ∧ (h93 49 4) = (h85 49 4) ∧ (h93 49 5) = (h85 49 5) ∧ (h93 64 0) = (h85 64 0) ∧ (h93 76 0) = (h85 76 0) := f91
          clear f91
          have e96 : h93 0 10 = 58 := by omega
          have e97 : h93 0 11 = 58 := by omega
          have e98 : h93 0 12 = 86 := by omega
          refine ov_blk (ls2 := [(0, ov_r 0), (1, ov_i v3), (2, ov_r 58)]) (st2 := [ov_i v3]) (pc2 := 64) b_23_63_1 rfl rfl ?_
          have gf99 : 1 ≤ (h93 58 0) ∧ 1 ≤ (h93 58 1) := ov_I_fg (h := h93) (T := 58) (by omega) I94
          have gk : F (-5) 70 = 1 := by omega
          have gf100 : 1 ≤ (h93 70 0) ∧ 1 ≤ (h93 70 1) := ov_I_fk (h := h93) (S := 70) (by omega) I94 gk
          exact ov_reti (st := []) d_23_64 rfl ⟨_, rfl, (ov_I_fd I94), (by show (h93 1 1) = 0 ∧ ((h93 36 7) = 1 → (h93 36 8) = (h93 0 10)) ∧ ((h93 0 10) = 58 ∧ (h93 0 11) = 70 ∧ 0 ≤ (h93 64 0) ∧ 1 ≤ (h93 58 0) ∧ 1 ≤ (h93 58 1) ∨ (h93 0 10) = 70 ∧ (h93 0 11) = 58 ∧ 0 ≤ (h93 76 0) ∧ 1 ≤ (h93 70 0) ∧ 1 ≤ (h93 70 1)) ∧ v3 = f0 ∧ (h93 90 2) = (h 90 2) ∧ (h93 0 12) = (h 0 12) ∧ (h93 0 13) = (h 0 13) ∧ (h93 46 3) = (h 46 3) ∧ (h93 46 4) = (h 46 4) ∧ (h93 49 4) = (h 49 4) ∧ (h93 49 5) = (h 49 5); omega)⟩
      · skip
        refine ov_getf (v := ov_r 70) d_23_17 fl_OF_78 (zb_0 I9) (zs_0 I9) (congrArg ov_r e13) ?_
        refine ov_blk (ls2 := [(0, ov_r 0), (1, ov_i v3), (2, ov_r 70)]) (st2 := [ov_r 0, ov_r 0]) (pc2 := 23) b_23_20_3 rfl rfl ?_
        refine ov_getf (v := ov_r 58) d_23_23 fl_OF_82 (zb_0 I9) (zs_0 I9) (congrArg ov_r e8) ?_
        refine ov_putf (x := 58) d_23_26 fl_OF_78 (zb_0 I9) (zs_0 I9) rfl nk_2 rfl ?_
        have I101 := up_0_10 (x := 58) I9 (by omega) ((ov_kwu hw) 0 (by decide +kernel))
        refine ov_blk (ls2 := [(0, ov_r 0), (1, ov_i v3), (2, ov_r 70)]) (st2 := [ov_r 70, ov_r 0]) (pc2 := 31) b_23_29_2 rfl rfl ?_
        refine ov_putf (x := 70) d_23_31 fl_OF_82 (zb_0 I101) (zs_0 I101) rfl nk_2 rfl ?_
        have I102 := up_0_11 (x := 70) I101 (by omega) ((ov_kwu hw) 0 (by decide +kernel))
        refine ov_blk (ls2 := [(0, ov_r 0), (1, ov_i v3), (2, ov_r 70)]) (st2 := [ov_r 0]) (pc2 := 35) b_23_34_1 rfl rfl ?_
        rcases rg_0_12 I9 with e103 | e103
        · skip
          refine ov_getf (v := ov_r 82) d_23_35 fl_OF_88 (zb_0 I102) (zs_0 I102) (congrArg ov_r e103) ?_
          refine ov_cV (as := []) (st := []) (d2 := d - 1) d_23_38 lk_OF_113 rfl (Nat.le_of_ble_eq_true rfl) (c := 10) (zb_82 I102) (zs_82 I102) ⟨by decide, rfl⟩ (by omega) (c_Walk_clear_82 (d - 1) (by omega) U I102 (ov_kws (ov_kwu hw) (by decide +kernel))) ?_
          rintro _ z105 h106 ⟨rfl, I107, f104⟩
          show ov_R u d ov_m23 41 [(0, ov_r 0), (1, ov_i v3), (2, ov_r 70)] [] z105 h106 (P_OF_town_0_s f0 F z h)
          have f108 : (h106 36 7) = (h5 36 7) ∧ (h106 1 1) = (h5 1 1) ∧ (h106 90 2) = (h5 90 2) ∧ (h106 0 10) = 58 ∧ (h106 0 11) = 70 ∧ (h106 0 12) = (h5 0 12) ∧ (h106 0 13) = (h5 0 13) ∧ (h106 3 1) = (h5 3 1) ∧ (h106 36 8) = (h5 36 8) ∧ (h106 46 3) = (h5 46 3) ∧ (h106 46 4) = (h5 46 4) ∧ (h106 49 4) = (h5 49 4) ∧ (h106 49 5) = (h5 49 5) ∧ (h106 64 0) = (h5 64 0) ∧ (h106 76 0) = (h5 76 0) := f104
          clear f104
          have e109 : h106 0 10 = 58 := by omega
          have e110 : h106 0 11 = 70 := by omega
          have e111 : h106 0 12 = 82 := by omega
          refine ov_blk (ls2 := [(0, ov_r 0), (1, ov_i v3), (2, ov_r 70)]) (st2 := [ov_r 0]) (pc2 := 42) b_23_41_1 rfl rfl ?_
          refine ov_getf (v := ov_r 4) d_23_42 fl_OF_28 (zb_0 I107) (zs_0 I107) (congrArg ov_r (rg_0_2 I107)) ?_
          refine ov_cV (as := []) (st := []) (d2 := d - 1) d_23_45 lk_OF_114 rfl (Nat.le_of_ble_eq_true rfl) (c := 7) (zb_4 I107) (zs_4 I107) ⟨by decide, rfl⟩ (by omega) (c_State_clear_4 (d - 1) (by omega) U I107 (ov_kws (ov_kwu hw) (by decide +kernel))) ?_
          rintro _ z113 h114 ⟨rfl, I115, f112⟩
          show ov_R u d ov_m23 48 [(0, ov_r 0), (1, ov_i v3), (2, ov_r 70)] [] z113 h114 (P_OF_town_0_s f0 F z h)
          have f116 : (h114 36 7) = (h106 36 7) ∧ (h114 1 1) = (h106 1 1) ∧ (h114 90 2) = (h106 90 2) ∧ (h114 0 10) = (h106 0 10) ∧ (h114 0 11) = (h106 0 11) ∧ (h114 0 12) = (h106 0 12) ∧ (h114 0 13) = (h106 0 13) ∧ (h114 3 1) = (h106 3 1) ∧ (h114 36 8) = (h106 36 8) ∧ (h114 46 3) = (h106 46 3) ∧ (h114 46 4) = (h106 46 4) ∧ (h114 49 4) = (h106 49 4) ∧ (h114 49 5) = (h106 49 5) ∧ (h114 64 0) = (h106 64 0) ∧ (h114 76 0) = (h106 76 0) := f112
          clear f112
          have e117 : h114 0 10 = 58 := by omega
          have e118 : h114 0 11 = 70 := by omega
          have e119 : h114 0 12 = 82 := by omega
          refine ov_blk (ls2 := [(0, ov_r 0), (1, ov_i v3), (2, ov_r 70)]) (st2 := [ov_r 0]) (pc2 := 49) b_23_48_1 rfl rfl ?_
          refine ov_getf (v := ov_r 9) d_23_49 fl_OF_35 (zb_0 I115) (zs_0 I115) (congrArg ov_r (rg_0_3 I115)) ?_
          refine ov_cV (as := []) (st := []) (d2 := d - 1) d_23_52 lk_OF_115 rfl (Nat.le_of_ble_eq_true rfl) (c := 3) (zb_9 I115) (zs_9 I115) ⟨by decide, rfl⟩ (by omega) (c_History_clear_9 (d - 1) (by omega) U I115 (ov_kws (ov_kwu hw) (by decide +kernel))) ?_
          rintro _ z121 h122 ⟨rfl, I123, f120⟩
          show ov_R u d ov_m23 55 [(0, ov_r 0), (1, ov_i v3), (2, ov_r 70)] [] z121 h122 (P_OF_town_0_s f0 F z h)
          have f124 : (h122 36 7) = (h114 36 7) ∧ (h122 1 1) = (h114 1 1) ∧ (h122 90 2) = (h114 90 2) ∧ (h122 0 10) = (h114 0 10) ∧ (h122 0 11) = (h114 0 11) ∧ (h122 0 12) = (h114 0 12) ∧ (h122 0 13) = (h114 0 13) ∧ (h122 3 1) = (h114 3 1) ∧ (h122 36 8) = (h114 36 8) ∧ (h122 46 3) = (h114 46 3) ∧ (h122 46 4) = (h114 46 4) ∧ (h122 49 4) = (h114 49 4) ∧ (h122 49 5) = (h114 49 5) ∧ (h122 64 0) = (h114 64 0) ∧ (h122 76 0) = (h114 76 0) := f120
          clear f120
          have e125 : h122 0 10 = 58 := by omega
          have e126 : h122 0 11 = 70 := by omega
          have e127 : h122 0 12 = 82 := by omega
          refine ov_blk (ls2 := [(0, ov_r 0), (1, ov_i v3), (2, ov_r 70)]) (st2 := [ov_r 0]) (pc2 := 56) b_23_55_1 rfl rfl ?_
          refine ov_cV (as := []) (st := []) (d2 := d - 1) d_23_56 lk_OF_116 rfl (Nat.le_of_ble_eq_true rfl) (c := 0) (zb_0 I123) (zs_0 I123) ⟨by decide, rfl⟩ (by omega) (c_OF_forgetMarks_0 (d - 1) (by omega) U I123 (ov_kws (ov_kwu hw) (by decide +kernel))) ?_
          rintro _ z129 h130 ⟨rfl, I131, f128⟩
          show ov_R u d ov_m23 59 [(0, ov_r 0), (1, ov_i v3), (2, ov_r 70)] [] z129 h130 (P_OF_town_0_s f0 F z h)
          have f132 : (h130 36 7) = (h122 36 7) ∧ (h130 1 1) = (h122 1 1) ∧ (h130 90 2) = (h122 90 2) ∧ (h130 0 10) = (h122 0 10) ∧ (h130 0 11) = (h122 0 11) ∧ (h130 0 12) = (h122 0 12) ∧ (h130 0 13) = (h122 0 13) ∧ (h130 3 1) = (h122 3 1) ∧ (h130 36 8) = (h122 36 8) ∧ (h130 46 3) = (h122 46 3) ∧ (h130 46 4) = (h122 46 4) ∧ (h130 49 4) = (h122 49 4) ∧ (h130 49 5) = (h122 49 5) ∧ (h130 64 0) = (h122 64 0) ∧ (h130 76 0) = (h122 76 0) := f128
          clear f128
          have e133 : h130 0 10 = 58 := by omega
          have e134 : h130 0 11 = 70 := by omega
          have e135 : h130 0 12 = 82 := by omega
          refine ov_blk (ls2 := [(0, ov_r 0), (1, ov_i v3), (2, ov_r 70)]) (st2 := [ov_r 0]) (pc2 := 60) b_23_59_1 rfl rfl ?_
          refine ov_cV (as := []) (st := []) (d2 := d - 1) d_23_60 lk_OF_119 rfl (Nat.le_of_ble_eq_true rfl) (c := 0) (zb_0 I131) (zs_0 I131) ⟨by decide, rfl⟩ (by omega) (c_OF_forgetReckonings_0 (d - 1) (by omega) U I131) ?_
          rintro _ z137 h138 ⟨rfl, I139, f136⟩
          show ov_R u d ov_m23 63 [(0, ov_r 0), (1, ov_i v3), (2, ov_r 70)] [] z137 h138 (P_OF_town_0_s f0 F z h)
          have f140 : (h138 36 7) = 0 ∧ (h138 1 1) = (h130 1 1) ∧ (h138 90 2) = (h130 90 2) ∧ (h138 0 10) = (h130 0 10) ∧ (h138 0 11) = (h130 0 11) ∧ (h138 0 12) = (h130 0 12) ∧ (h138 0 13) = (h130 0 13) ∧ (h138 3 1) = (h130 3 1) ∧ (h138 36 8) = (h130 36 8) ∧ (h138 46 3) = (h130 46 3) ∧ (h138 46 4) = (h130 46 4) ∧ (h138 49 4) = (h130 49 4) ∧ (h138 49 5) = (h130 49 5) ∧ (h138 64 0) = (h130 64 0) ∧ (h138 76 0) = (h130 76 0) := f136
          clear f136
          have e141 : h138 0 10 = 58 := by omega
          have e142 : h138 0 11 = 70 := by omega
          have e143 : h138 0 12 = 82 := by omega
          refine ov_blk (ls2 := [(0, ov_r 0), (1, ov_i v3), (2, ov_r 70)]) (st2 := [ov_i v3]) (pc2 := 64) b_23_63_1 rfl rfl ?_
          have gf144 : 1 ≤ (h138 58 0) ∧ 1 ≤ (h138 58 1) := ov_I_fg (h := h138) (T := 58) (by omega) I139
          have gk : F (-5) 70 = 1 := by omega
          have gf145 : 1 ≤ (h138 70 0) ∧ 1 ≤ (h138 70 1) := ov_I_fk (h := h138) (S := 70) (by omega) I139 gk
          exact ov_reti (st := []) d_23_64 rfl ⟨_, rfl, (ov_I_fd I139), (by show (h138 1 1) = 0 ∧ ((h138 36 7) = 1 → (h138 36 8) = (h138 0 10)) ∧ ((h138 0 10) = 58 ∧ (h138 0 11) = 70 ∧ 0 ≤ (h138 64 0) ∧ 1 ≤ (h138 58 0) ∧ 1 ≤ (h138 58 1) ∨ (h138 0 10) = 70 ∧ (h138 0 11) = 58 ∧ 0 ≤ (h138 76 0) ∧ 1 ≤ (h138 70 0) ∧ 1 ≤ (h138 70 1)) ∧ v3 = f0 ∧ (h138 90 2) = (h 90 2) ∧ (h138 0 12) = (h 0 12) ∧ (h138 0 13) = (h 0 13) ∧ (h138 46 3) = (h 46 3) ∧ (h138 46 4) = (h 46 4) ∧ (h138 49 4) = (h 49 4) ∧ (h138 49 5) = (h 49 5); omega)⟩
        · skip
          refine ov_getf (v := ov_r 86) d_23_35 fl_OF_88 (zb_0 I102) (zs_0 I102) (congrArg ov_r e103) ?_
          refine ov_cV (as := []) (st := []) (d2 := d - 1) d_23_38 lk_OF_113 rfl (Nat.le_of_ble_eq_true rfl) (c := 10) (zb_86 I102) (zs_86 I102) ⟨by decide, rfl⟩ (by omega) (c_Walk_clear_86 (d - 1) (by omega) U I102 (ov_kws (ov_kwu hw) (by decide +kernel))) ?_
          rintro _ z147 h148 ⟨rfl, I149, f146⟩
          show ov_R u d ov_m23 41 [(0, ov_r 0), (1, ov_i v3), (2, ov_r 70)] [] z147 h148 (P_OF_town_0_s f0 F z h)
          have f150 : (h148 36 7) = (h5 36 7) ∧ (h148 1 1) = (h5 1 1) ∧ (h148 90 2) = (h5 90 2) ∧ (h148 0 10) = 58 ∧ (h148 0 11) = 70 ∧ (h148 0 12) = (h5 0 12) ∧ (h148 0 13) = (h5 0 13) ∧ (h148 3 1) = (h5 3 1) ∧ (h148 36 8) = (h5 36 8) ∧ (h148 46 3) = (h5 46 3) ∧ (h148 46 4) = (h5 46 4) ∧ (h148 49 4) = (h5 49 4) ∧ (h148 49 5) = (h5 49 5) ∧ (h148 64 0) = (h5 64 0) ∧ (h148 76 0) = (h5 76 0) := f146
          clear f146
          have e151 : h148 0 10 = 58 := by omega
          have e152 : h148 0 11 = 70 := by omega
          have e153 : h148 0 12 = 86 := by omega
          refine ov_blk (ls2 := [(0, ov_r 0), (1, ov_i v3), (2, ov_r 70)]) (st2 := [ov_r 0]) (pc2 := 42) b_23_41_1 rfl rfl ?_
          refine ov_getf (v := ov_r 4) d_23_42 fl_OF_28 (zb_0 I149) (zs_0 I149) (congrArg ov_r (rg_0_2 I149)) ?_
          refine ov_cV (as := []) (st := []) (d2 := d - 1) d_23_45 lk_OF_114 rfl (Nat.le_of_ble_eq_true rfl) (c := 7) (zb_4 I149) (zs_4 I149) ⟨by decide, rfl⟩ (by omega) (c_State_clear_4 (d - 1) (by omega) U I149 (ov_kws (ov_kwu hw) (by decide +kernel))) ?_
          rintro _ z155 h156 ⟨rfl, I157, f154⟩
          show ov_R u d ov_m23 48 [(0, ov_r 0), (1, ov_i v3), (2, ov_r 70)] [] z155 h156 (P_OF_town_0_s f0 F z h)
          have f158 : (h156 36 7) = (h148 36 7) ∧ (h156 1 1) = (h148 1 1) ∧ (h156 90 2) = (h148 90 2) ∧ (h156 0 10) = (h148 0 10) ∧ (h156 0 11) = (h148 0 11) ∧ (h156 0 12) = (h148 0 12) ∧ (h156 0 13) = (h148 0 13) ∧ (h156 3 1) = (h148 3 1) ∧ (h156 36 8) = (h148 36 8) ∧ (h156 46 3) = (h148 46 3) ∧ (h156 46 4) = (h148 46 4) ∧ (h156 49 4) = (h148 49 4) ∧ (h156 49 5) = (h148 49 5) ∧ (h156 64 0) = (h148 64 0) ∧ (h156 76 0) = (h148 76 0) := f154
          clear f154
          have e159 : h156 0 10 = 58 := by omega
          have e160 : h156 0 11 = 70 := by omega
          have e161 : h156 0 12 = 86 := by omega
          refine ov_blk (ls2 := [(0, ov_r 0), (1, ov_i v3), (2, ov_r 70)]) (st2 := [ov_r 0]) (pc2 := 49) b_23_48_1 rfl rfl ?_
          refine ov_getf (v := ov_r 9) d_23_49 fl_OF_35 (zb_0 I157) (zs_0 I157) (congrArg ov_r (rg_0_3 I157)) ?_
          refine ov_cV (as := []) (st := []) (d2 := d - 1) d_23_52 lk_OF_115 rfl (Nat.le_of_ble_eq_true rfl) (c := 3) (zb_9 I157) (zs_9 I157) ⟨by decide, rfl⟩ (by omega) (c_History_clear_9 (d - 1) (by omega) U I157 (ov_kws (ov_kwu hw) (by decide +kernel))) ?_
          rintro _ z163 h164 ⟨rfl, I165, f162⟩
          show ov_R u d ov_m23 55 [(0, ov_r 0), (1, ov_i v3), (2, ov_r 70)] [] z163 h164 (P_OF_town_0_s f0 F z h)
          have f166 : (h164 36 7) = (h156 36 7) ∧ (h164 1 1) = (h156 1 1) ∧ (h164 90 2) = (h156 90 2) ∧ (h164 0 10) = (h156 0 10) ∧ (h164 0 11) = (h156 0 11) ∧ (h164 0 12) = (h156 0 12) ∧ (h164 0 13) = (h156 0 13) ∧ (h164 3 1) = (h156 3 1) ∧ (h164 36 8) = (h156 36 8) ∧ (h164 46 3) = (h156 46 3) ∧ (h164 46 4) = (h156 46 4) ∧ (h164 49 4) = (h156 49 4) ∧ (h164 49 5) = (h156 49 5) ∧ (h164 64 0) = (h156 64 0) ∧ (h164 76 0) = (h156 76 0) := f162
          clear f162
          have e167 : h164 0 10 = 58 := by omega
          have e168 : h164 0 11 = 70 := by omega
          have e169 : h164 0 12 = 86 := by omega
          refine ov_blk (ls2 := [(0, ov_r 0), (1, ov_i v3), (2, ov_r 70)]) (st2 := [ov_r 0]) (pc2 := 56) b_23_55_1 rfl rfl ?_
          refine ov_cV (as := []) (st := []) (d2 := d - 1) d_23_56 lk_OF_116 rfl (Nat.le_of_ble_eq_true rfl) (c := 0) (zb_0 I165) (zs_0 I165) ⟨by decide, rfl⟩ (by omega) (c_OF_forgetMarks_0 (d - 1) (by omega) U I165 (ov_kws (ov_kwu hw) (by decide +kernel))) ?_
          rintro _ z171 h172 ⟨rfl, I173, f170⟩
          show ov_R u d ov_m23 59 [(0, ov_r 0), (1, ov_i v3), (2, ov_r 70)] [] z171 h172 (P_OF_town_0_s f0 F z h)
          have f174 : (h172 36 7) = (h164 36 7) ∧ (h172 1 1) = (h164 1 1) ∧ (h172 90 2) = (h164 90 2) ∧ (h172 0 10) = (h164 0 10) ∧ (h172 0 11) = (h164 0 11) ∧ (h172 0 12) = (h164 0 12) ∧ (h172 0 13) = (h164 0 13) ∧ (h172 3 1) = (h164 3 1) ∧ (h172 36 8) = (h164 36 8) ∧ (h172 46 3) = (h164 46 3) ∧ (h172 46 4) = (h164 46 4) ∧ (h172 49 4) = (h164 49 4) ∧ (h172 49 5) = (h164 49 5) ∧ (h172 64 0) = (h164 64 0) ∧ (h172 76 0) = (h164 76 0) := f170
          clear f170
          have e175 : h172 0 10 = 58 := by omega
          have e176 : h172 0 11 = 70 := by omega
          have e177 : h172 0 12 = 86 := by omega
          refine ov_blk (ls2 := [(0, ov_r 0), (1, ov_i v3), (2, ov_r 70)]) (st2 := [ov_r 0]) (pc2 := 60) b_23_59_1 rfl rfl ?_
          refine ov_cV (as := []) (st := []) (d2 := d - 1) d_23_60 lk_OF_119 rfl (Nat.le_of_ble_eq_true rfl) (c := 0) (zb_0 I173) (zs_0 I173) ⟨by decide, rfl⟩ (by omega) (c_OF_forgetReckonings_0 (d - 1) (by omega) U I173) ?_
          rintro _ z179 h180 ⟨rfl, I181, f178⟩
          show ov_R u d ov_m23 63 [(0, ov_r 0), (1, ov_i v3), (2, ov_r 70)] [] z179 h180 (P_OF_town_0_s f0 F z h)
          have f182 : (h180 36 7) = 0 ∧ (h180 1 1) = (h172 1 1) ∧ (h180 90 2) = (h172 90 2) ∧ (h180 0 10) = (h172 0 10) ∧ (h180 0 11) = (h172 0 11) ∧ (h180 0 12) = (h172 0 12) ∧ (h180 0 13) = (h172 0 13) ∧ (h180 3 1) = (h172 3 1) ∧ (h180 36 8) = (h172 36 8) ∧ (h180 46 3) = (h172 46 3) ∧ (h180 46 4) = (h172 46 4) ∧ (h180 49 4) = (h172 49 4) ∧ (h180 49 5) = (h172 49 5) ∧ (h180 64 0) = (h172 64 0) ∧ (h180 76 0) = (h172 76 0) := f178
          clear f178
          have e183 : h180 0 10 = 58 := by omega
          have e184 : h180 0 11 = 70 := by omega
          have e185 : h180 0 12 = 86 := by omega
          refine ov_blk (ls2 := [(0, ov_r 0), (1, ov_i v3), (2, ov_r 70)]) (st2 := [ov_i v3]) (pc2 := 64) b_23_63_1 rfl rfl ?_
          have gf186 : 1 ≤ (h180 58 0) ∧ 1 ≤ (h180 58 1) := ov_I_fg (h := h180) (T := 58) (by omega) I181
          have gk : F (-5) 70 = 1 := by omega
          have gf187 : 1 ≤ (h180 70 0) ∧ 1 ≤ (h180 70 1) := ov_I_fk (h := h180) (S := 70) (by omega) I181 gk
          exact ov_reti (st := []) d_23_64 rfl ⟨_, rfl, (ov_I_fd I181), (by show (h180 1 1) = 0 ∧ ((h180 36 7) = 1 → (h180 36 8) = (h180 0 10)) ∧ ((h180 0 10) = 58 ∧ (h180 0 11) = 70 ∧ 0 ≤ (h180 64 0) ∧ 1 ≤ (h180 58 0) ∧ 1 ≤ (h180 58 1) ∨ (h180 0 10) = 70 ∧ (h180 0 11) = 58 ∧ 0 ≤ (h180 76 0) ∧ 1 ≤ (h180 70 0) ∧ 1 ≤ (h180 70 1)) ∧ v3 = f0 ∧ (h180 90 2) = (h 90 2) ∧ (h180 0 12) = (h 0 12) ∧ (h180 0 13) = (h 0 13) ∧ (h180 46 3) = (h 46 3) ∧ (h180 46 4) = (h 46 4) ∧ (h180 49 4) = (h 49 4) ∧ (h180 49 5) = (h 49 5); omega)⟩
  · skip
    refine ov_getf (v := ov_r 70) d_23_5 fl_OF_82 (zb_0 I) (zs_0 I) (congrArg ov_r e1) ?_
    refine ov_cV (as := [ov_r 70]) (st := []) (d2 := d - 1) d_23_8 lk_OF_109 rfl (Nat.le_of_ble_eq_true rfl) (c := 6) (zb_3 I) (zs_3 I) ⟨by decide, rfl⟩ (by omega) (c_Reader_readTown_3_70_s t m f0 hf et em (d - 1) (by omega) U I (ov_kws hw (by decide +kernel))) ?_
    rintro _ z190 h191 ⟨v189, rfl, I192, f188⟩
    show ov_R u d ov_m23 11 [(0, ov_r 0)] [ov_i v189] z190 h191 (P_OF_town_0_s f0 F z h)
    have f193 : (h191 1 1) = 0 ∧ -2147483648 ≤ v189 ∧ v189 ≤ 2147483647 ∧ (v189 = 0 → 0 ≤ (h191 76 0)) ∧ 1 ≤ (h191 70 0) ∧ 1 ≤ (h191 70 1) ∧ v189 = f0 ∧ (h191 36 7) = (h 36 7) ∧ (h191 90 2) = (h 90 2) ∧ (h191 0 10) = (h 0 10) ∧ (h191 0 11) = (h 0 11) ∧ (h191 0 12) = (h 0 12) ∧ (h191 0 13) = (h 0 13) ∧ (h191 36 8) = (h 36 8) ∧ (h191 46 3) = (h 46 3) ∧ (h191 46 4) = (h 46 4) ∧ (h191 49 4) = (h 49 4) ∧ (h191 49 5) = (h 49 5) ∧ (h191 64 0) = (h 64 0) := f188
    clear f188
    have e194 : h191 0 11 = 70 := by omega
    have I195 := ov_I_fu (T := 70) I192 (by omega)
    refine ov_blk (ls2 := [(0, ov_r 0), (1, ov_i v189)]) (st2 := [ov_i v189]) (pc2 := 13) b_23_11_2 rfl rfl ?_
    refine ov_ifne (tgt := 63) d_23_13 (by decide) (by omega) (fun c196 => ?_) (fun c196 => ?_)
    · skip
      refine ov_blk (ls2 := [(0, ov_r 0), (1, ov_i v189)]) (st2 := [ov_i v189]) (pc2 := 64) b_23_63_1 rfl rfl ?_
      have gf197 : 1 ≤ (h191 70 0) ∧ 1 ≤ (h191 70 1) := ov_I_fg (h := h191) (T := 70) (by omega) I195
      have gk : F (-5) 58 = 1 := by omega
      have gf198 : 1 ≤ (h191 58 0) ∧ 1 ≤ (h191 58 1) := ov_I_fk (h := h191) (S := 58) (by omega) I195 gk
      exact ov_reti (st := []) d_23_64 rfl ⟨_, rfl, (ov_I_fd I195), (by show (h191 1 1) = 0 ∧ ((h191 36 7) = 1 → (h191 36 8) = (h191 0 10)) ∧ ((h191 0 10) = 58 ∧ (h191 0 11) = 70 ∧ 0 ≤ (h191 64 0) ∧ 1 ≤ (h191 58 0) ∧ 1 ≤ (h191 58 1) ∨ (h191 0 10) = 70 ∧ (h191 0 11) = 58 ∧ 0 ≤ (h191 76 0) ∧ 1 ≤ (h191 70 0) ∧ 1 ≤ (h191 70 1)) ∧ v189 = f0 ∧ (h191 90 2) = (h 90 2) ∧ (h191 0 12) = (h 0 12) ∧ (h191 0 13) = (h 0 13) ∧ (h191 46 3) = (h 46 3) ∧ (h191 46 4) = (h 46 4) ∧ (h191 49 4) = (h 49 4) ∧ (h191 49 5) = (h 49 5); omega)⟩
    · skip
      refine ov_blk (ls2 := [(0, ov_r 0), (1, ov_i v189)]) (st2 := [ov_r 0]) (pc2 := 17) b_23_16_1 rfl rfl ?_
      rcases rg_0_10 I195 with e199 | e199
      · skip
        refine ov_getf (v := ov_r 58) d_23_17 fl_OF_78 (zb_0 I195) (zs_0 I195) (congrArg ov_r e199) ?_
        refine ov_blk (ls2 := [(0, ov_r 0), (1, ov_i v189), (2, ov_r 58)]) (st2 := [ov_r 0, ov_r 0]) (pc2 := 23) b_23_20_3 rfl rfl ?_
        refine ov_getf (v := ov_r 70) d_23_23 fl_OF_82 (zb_0 I195) (zs_0 I195) (congrArg ov_r e194) ?_
        refine ov_putf (x := 70) d_23_26 fl_OF_78 (zb_0 I195) (zs_0 I195) rfl nk_2 rfl ?_
        have I200 := up_0_10 (x := 70) I195 (by omega) ((ov_kwu hw) 0 (by decide +kernel))
        refine ov_blk (ls2 := [(0, ov_r 0), (1, ov_i v189), (2, ov_r 58)]) (st2 := [ov_r 58, ov_r 0]) (pc2 := 31) b_23_29_2 rfl rfl ?_
        refine ov_putf (x := 58) d_23_31 fl_OF_82 (zb_0 I200) (zs_0 I200) rfl nk_2 rfl ?_
        have I201 := up_0_11 (x := 58) I200 (by omega) ((ov_kwu hw) 0 (by decide +kernel))
        refine ov_blk (ls2 := [(0, ov_r 0), (1, ov_i v189), (2, ov_r 58)]) (st2 := [ov_r 0]) (pc2 := 35) b_23_34_1 rfl rfl ?_
        rcases rg_0_12 I195 with e202 | e202
        · skip
          refine ov_getf (v := ov_r 82) d_23_35 fl_OF_88 (zb_0 I201) (zs_0 I201) (congrArg ov_r e202) ?_
          refine ov_cV (as := []) (st := []) (d2 := d - 1) d_23_38 lk_OF_113 rfl (Nat.le_of_ble_eq_true rfl) (c := 10) (zb_82 I201) (zs_82 I201) ⟨by decide, rfl⟩ (by omega) (c_Walk_clear_82 (d - 1) (by omega) U I201 (ov_kws (ov_kwu hw) (by decide +kernel))) ?_
          rintro _ z204 h205 ⟨rfl, I206, f203⟩
          show ov_R u d ov_m23 41 [(0, ov_r 0), (1, ov_i v189), (2, ov_r 58)] [] z204 h205 (P_OF_town_0_s f0 F z h)
          have f207 : (h205 36 7) = (h191 36 7) ∧ (h205 1 1) = (h191 1 1) ∧ (h205 90 2) = (h191 90 2) ∧ (h205 0 10) = 70 ∧ (h205 0 11) = 58 ∧ (h205 0 12) = (h191 0 12) ∧ (h205 0 13) = (h191 0 13) ∧ (h205 3 1) = (h191 3 1) ∧ (h205 36 8) = (h191 36 8) ∧ (h205 46 3) = (h191 46 3) ∧ (h205 46 4) = (h191 46 4) ∧ (h205 49 4) = (h191 49 4) ∧ (h205 49 5) = (h191 49 5) ∧ (h205 64 0) = (h191 64 0) ∧ (h205 76 0) = (h191 76 0) := f203
          clear f203
          have e208 : h205 0 10 = 70 := by omega
          have e209 : h205 0 11 = 58 := by omega
          have e210 : h205 0 12 = 82 := by omega
          refine ov_blk (ls2 := [(0, ov_r 0), (1, ov_i v189), (2, ov_r 58)]) (st2 := [ov_r 0]) (pc2 := 42) b_23_41_1 rfl rfl ?_
          refine ov_getf (v := ov_r 4) d_23_42 fl_OF_28 (zb_0 I206) (zs_0 I206) (congrArg ov_r (rg_0_2 I206)) ?_
          refine ov_cV (as := []) (st := []) (d2 := d - 1) d_23_45 lk_OF_114 rfl (Nat.le_of_ble_eq_true rfl) (c := 7) (zb_4 I206) (zs_4 I206) ⟨by decide, rfl⟩ (by omega) (c_State_clear_4 (d - 1) (by omega) U I206 (ov_kws (ov_kwu hw) (by decide +kernel))) ?_
          rintro _ z212 h213 ⟨rfl, I214, f211⟩
          show ov_R u d ov_m23 48 [(0, ov_r 0), (1, ov_i v189), (2, ov_r 58)] [] z212 h213 (P_OF_town_0_s f0 F z h)
          have f215 : (h213 36 7) = (h205 36 7) ∧ (h213 1 1) = (h205 1 1) ∧ (h213 90 2) = (h205 90 2) ∧ (h213 0 10) = (h205 0 10) ∧ (h213 0 11) = (h205 0 11) ∧ (h213 0 12) = (h205 0 12) ∧ (h213 0 13) = (h205 0 13) ∧ (h213 3 1) = (h205 3 1) ∧ (h213 36 8) = (h205 36 8) ∧ (h213 46 3) = (h205 46 3) ∧ (h213 46 4) = (h205 46 4) ∧ (h213 49 4) = (h205 49 4) ∧ (h213 49 5) = (h205 49 5) ∧ (h213 64 0) = (h205 64 0) ∧ (h213 76 0) = (h205 76 0) := f211
          clear f211
          have e216 : h213 0 10 = 70 := by omega
          have e217 : h213 0 11 = 58 := by omega
          have e218 : h213 0 12 = 82 := by omega
          refine ov_blk (ls2 := [(0, ov_r 0), (1, ov_i v189), (2, ov_r 58)]) (st2 := [ov_r 0]) (pc2 := 49) b_23_48_1 rfl rfl ?_
          refine ov_getf (v := ov_r 9) d_23_49 fl_OF_35 (zb_0 I214) (zs_0 I214) (congrArg ov_r (rg_0_3 I214)) ?_
          refine ov_cV (as := []) (st := []) (d2 := d - 1) d_23_52 lk_OF_115 rfl (Nat.le_of_ble_eq_true rfl) (c := 3) (zb_9 I214) (zs_9 I214) ⟨by decide, rfl⟩ (by omega) (c_History_clear_9 (d - 1) (by omega) U I214 (ov_kws (ov_kwu hw) (by decide +kernel))) ?_
          rintro _ z220 h221 ⟨rfl, I222, f219⟩
          show ov_R u d ov_m23 55 [(0, ov_r 0), (1, ov_i v189), (2, ov_r 58)] [] z220 h221 (P_OF_town_0_s f0 F z h)
          have f223 : (h221 36 7) = (h213 36 7) ∧ (h221 1 1) = (h213 1 1) ∧ (h221 90 2) = (h213 90 2) ∧ (h221 0 10) = (h213 0 10) ∧ (h221 0 11) = (h213 0 11) ∧ (h221 0 12) = (h213 0 12) ∧ (h221 0 13) = (h213 0 13) ∧ (h221 3 1) = (h213 3 1) ∧ (h221 36 8) = (h213 36 8) ∧ (h221 46 3) = (h213 46 3) ∧ (h221 46 4) = (h213 46 4) ∧ (h221 49 4) = (h213 49 4) ∧ (h221 49 5) = (h213 49 5) ∧ (h221 64 0) = (h213 64 0) ∧ (h221 76 0) = (h213 76 0) := f219
          clear f219
          have e224 : h221 0 10 = 70 := by omega
          have e225 : h221 0 11 = 58 := by omega
          have e226 : h221 0 12 = 82 := by omega
          refine ov_blk (ls2 := [(0, ov_r 0), (1, ov_i v189), (2, ov_r 58)]) (st2 := [ov_r 0]) (pc2 := 56) b_23_55_1 rfl rfl ?_
          refine ov_cV (as := []) (st := []) (d2 := d - 1) d_23_56 lk_OF_116 rfl (Nat.le_of_ble_eq_true rfl) (c := 0) (zb_0 I222) (zs_0 I222) ⟨by decide, rfl⟩ (by omega) (c_OF_forgetMarks_0 (d - 1) (by omega) U I222 (ov_kws (ov_kwu hw) (by decide +kernel))) ?_
          rintro _ z228 h229 ⟨rfl, I230, f227⟩
          show ov_R u d ov_m23 59 [(0, ov_r 0), (1, ov_i v189), (2, ov_r 58)] [] z228 h229 (P_OF_town_0_s f0 F z h)
          have f231 : (h229 36 7) = (h221 36 7) ∧ (h229 1 1) = (h221 1 1) ∧ (h229 90 2) = (h221 90 2) ∧ (h229 0 10) = (h221 0 10) ∧ (h229 0 11) = (h221 0 11) ∧ (h229 0 12) = (h221 0 12) ∧ (h229 0 13) = (h221 0 13) ∧ (h229 3 1) = (h221 3 1) ∧ (h229 36 8) = (h221 36 8) ∧ (h229 46 3) = (h221 46 3) ∧ (h229 46 4) = (h221 46 4) ∧ (h229 49 4) = (h221 49 4) ∧ (h229 49 5) = (h221 49 5) ∧ (h229 64 0) = (h221 64 0) ∧ (h229 76 0) = (h221 76 0) := f227
          clear f227
          have e232 : h229 0 10 = 70 := by omega
          have e233 : h229 0 11 = 58 := by omega
          have e234 : h229 0 12 = 82 := by omega
          refine ov_blk (ls2 := [(0, ov_r 0), (1, ov_i v189), (2, ov_r 58)]) (st2 := [ov_r 0]) (pc2 := 60) b_23_59_1 rfl rfl ?_
          refine ov_cV (as := []) (st := []) (d2 := d - 1) d_23_60 lk_OF_119 rfl (Nat.le_of_ble_eq_true rfl) (c := 0) (zb_0 I230) (zs_0 I230) ⟨by decide, rfl⟩ (by omega) (c_OF_forgetReckonings_0 (d - 1) (by omega) U I230) ?_
          rintro _ z236 h237 ⟨rfl, I238, f235⟩
          show ov_R u d ov_m23 63 [(0, ov_r 0), (1, ov_i v189), (2, ov_r 58)] [] z236 h237 (P_OF_town_0_s f0 F z h)
          have f239 : (h237 36 7) = 0 ∧ (h237 1 1) = (h229 1 1) ∧ (h237 90 2) = (h229 90 2) ∧ (h237 0 10) = (h229 0 10) ∧ (h237 0 11) = (h229 0 11) ∧ (h237 0 12) = (h229 0 12) ∧ (h237 0 13) = (h229 0 13) ∧ (h237 3 1) = (h229 3 1) ∧ (h237 36 8) = (h229 36 8) ∧ (h237 46 3) = (h229 46 3) ∧ (h237 46 4) = (h229 46 4) ∧ (h237 49 4) = (h229 49 4) ∧ (h237 49 5) = (h229 49 5) ∧ (h237 64 0) = (h229 64 0) ∧ (h237 76 0) = (h229 76 0) := f235
          clear f235
          have e240 : h237 0 10 = 70 := by omega
          have e241 : h237 0 11 = 58 := by omega
          have e242 : h237 0 12 = 82 := by omega
          refine ov_blk (ls2 := [(0, ov_r 0), (1, ov_i v189), (2, ov_r 58)]) (st2 := [ov_i v189]) (pc2 := 64) b_23_63_1 rfl rfl ?_
          have gf243 : 1 ≤ (h237 70 0) ∧ 1 ≤ (h237 70 1) := ov_I_fg (h := h237) (T := 70) (by omega) I238
          have gk : F (-5) 58 = 1 := by omega
          have gf244 : 1 ≤ (h237 58 0) ∧ 1 ≤ (h237 58 1) := ov_I_fk (h := h237) (S := 58) (by omega) I238 gk
          exact ov_reti (st := []) d_23_64 rfl ⟨_, rfl, (ov_I_fd I238), (by show (h237 1 1) = 0 ∧ ((h237 36 7) = 1 → (h237 36 8) = (h237 0 10)) ∧ ((h237 0 10) = 58 ∧ (h237 0 11) = 70 ∧ 0 ≤ (h237 64 0) ∧ 1 ≤ (h237 58 0) ∧ 1 ≤ (h237 58 1) ∨ (h237 0 10) = 70 ∧ (h237 0 11) = 58 ∧ 0 ≤ (h237 76 0) ∧ 1 ≤ (h237 70 0) ∧ 1 ≤ (h237 70 1)) ∧ v189 = f0 ∧ (h237 90 2) = (h 90 2) ∧ (h237 0 12) = (h 0 12) ∧ (h237 0 13) = (h 0 13) ∧ (h237 46 3) = (h 46 3) ∧ (h237 46 4) = (h 46 4) ∧ (h237 49 4) = (h 49 4) ∧ (h237 49 5) = (h 49 5); omega)⟩
        · skip
          refine ov_getf (v := ov_r 86) d_23_35 fl_OF_88 (zb_0 I201) (zs_0 I201) (congrArg ov_r e202) ?_
          refine ov_cV (as := []) (st := []) (d2 := d - 1) d_23_38 lk_OF_113 rfl (Nat.le_of_ble_eq_true rfl) (c := 10) (zb_86 I201) (zs_86 I201) ⟨by decide, rfl⟩ (by omega) (c_Walk_clear_86 (d - 1) (by omega) U I201 (ov_kws (ov_kwu hw) (by decide +kernel))) ?_
          rintro _ z246 h247 ⟨rfl, I248, f245⟩
          show ov_R u d ov_m23 41 [(0, ov_r 0), (1, ov_i v189), (2, ov_r 58)] [] z246 h247 (P_OF_town_0_s f0 F z h)
          have f249 : (h247 36 7) = (h191 36 7) ∧ (h247 1 1) = (h191 1 1) ∧ (h247 90 2) = (h191 90 2) ∧ (h247 0 10) = 70 ∧ (h247 0 11) = 58 ∧ (h247 0 12) = (h191 0 12) ∧ (h247 0 13) = (h191 0 13) ∧ (h247 3 1) = (h191 3 1) ∧ (h247 36 8) = (h191 36 8) ∧ (h247 46 3) = (h191 46 3) ∧ (h247 46 4) = (h191 46 4) ∧ (h247 49 4) = (h191 49 4) ∧ (h247 49 5) = (h191 49 5) ∧ (h247 64 0) = (h191 64 0) ∧ (h247 76 0) = (h191 76 0) := f245
          clear f245
          have e250 : h247 0 10 = 70 := by omega
          have e251 : h247 0 11 = 58 := by omega
          have e252 : h247 0 12 = 86 := by omega
          refine ov_blk (ls2 := [(0, ov_r 0), (1, ov_i v189), (2, ov_r 58)]) (st2 := [ov_r 0]) (pc2 := 42) b_23_41_1 rfl rfl ?_
          refine ov_getf (v := ov_r 4) d_23_42 fl_OF_28 (zb_0 I248) (zs_0 I248) (congrArg ov_r (rg_0_2 I248)) ?_
          refine ov_cV (as := []) (st := []) (d2 := d - 1) d_23_45 lk_OF_114 rfl (Nat.le_of_ble_eq_true rfl) (c := 7) (zb_4 I248) (zs_4 I248) ⟨by decide, rfl⟩ (by omega) (c_State_clear_4 (d - 1) (by omega) U I248 (ov_kws (ov_kwu hw) (by decide +kernel))) ?_
          rintro _ z254 h255 ⟨rfl, I256, f253⟩
          show ov_R u d ov_m23 48 [(0, ov_r 0), (1, ov_i v189), (2, ov_r 58)] [] z254 h255 (P_OF_town_0_s f0 F z h)
          have f257 : (h255 36 7) = (h247 36 7) ∧ (h255 1 1) = (h247 1 1) ∧ (h255 90 2) = (h247 90 2) ∧ (h255 0 10) = (h247 0 10) ∧ (h255 0 11) = (h247 0 11) ∧ (h255 0 12) = (h247 0 12) ∧ (h255 0 13) = (h247 0 13) ∧ (h255 3 1) = (h247 3 1) ∧ (h255 36 8) = (h247 36 8) ∧ (h255 46 3) = (h247 46 3) ∧ (h255 46 4) = (h247 46 4) ∧ (h255 49 4) = (h247 49 4) ∧ (h255 49 5) = (h247 49 5) ∧ (h255 64 0) = (h247 64 0) ∧ (h255 76 0) = (h247 76 0) := f253
          clear f253
          have e258 : h255 0 10 = 70 := by omega
          have e259 : h255 0 11 = 58 := by omega
          have e260 : h255 0 12 = 86 := by omega
          refine ov_blk (ls2 := [(0, ov_r 0), (1, ov_i v189), (2, ov_r 58)]) (st2 := [ov_r 0]) (pc2 := 49) b_23_48_1 rfl rfl ?_
          refine ov_getf (v := ov_r 9) d_23_49 fl_OF_35 (zb_0 I256) (zs_0 I256) (congrArg ov_r (rg_0_3 I256)) ?_
          refine ov_cV (as := []) (st := []) (d2 := d - 1) d_23_52 lk_OF_115 rfl (Nat.le_of_ble_eq_true rfl) (c := 3) (zb_9 I256) (zs_9 I256) ⟨by decide, rfl⟩ (by omega) (c_History_clear_9 (d - 1) (by omega) U I256 (ov_kws (ov_kwu hw) (by decide +kernel))) ?_
          rintro _ z262 h263 ⟨rfl, I264, f261⟩
          show ov_R u d ov_m23 55 [(0, ov_r 0), (1, ov_i v189), (2, ov_r 58)] [] z262 h263 (P_OF_town_0_s f0 F z h)
          have f265 : (h263 36 7) = (h255 36 7) ∧ (h263 1 1) = (h255 1 1) ∧ (h263 90 2) = (h255 90 2) ∧ (h263 0 10) = (h255 0 10) ∧ (h263 0 11) = (h255 0 11) ∧ (h263 0 12) = (h255 0 12) ∧ (h263 0 13) = (h255 0 13) ∧ (h263 3 1) = (h255 3 1) ∧ (h263 36 8) = (h255 36 8) ∧ (h263 46 3) = (h255 46 3) ∧ (h263 46 4) = (h255 46 4) ∧ (h263 49 4) = (h255 49 4) ∧ (h263 49 5) = (h255 49 5) ∧ (h263 64 0) = (h255 64 0) ∧ (h263 76 0) = (h255 76 0) := f261
          clear f261
          have e266 : h263 0 10 = 70 := by omega
          have e267 : h263 0 11 = 58 := by omega
          have e268 : h263 0 12 = 86 := by omega
          refine ov_blk (ls2 := [(0, ov_r 0), (1, ov_i v189), (2, ov_r 58)]) (st2 := [ov_r 0]) (pc2 := 56) b_23_55_1 rfl rfl ?_
          refine ov_cV (as := []) (st := []) (d2 := d - 1) d_23_56 lk_OF_116 rfl (Nat.le_of_ble_eq_true rfl) (c := 0) (zb_0 I264) (zs_0 I264) ⟨by decide, rfl⟩ (by omega) (c_OF_forgetMarks_0 (d - 1) (by omega) U I264 (ov_kws (ov_kwu hw) (by decide +kernel))) ?_
          rintro _ z270 h271 ⟨rfl, I272, f269⟩
          show ov_R u d ov_m23 59 [(0, ov_r 0), (1, ov_i v189), (2, ov_r 58)] [] z270 h271 (P_OF_town_0_s f0 F z h)
          have f273 : (h271 36 7) = (h263 36 7) ∧ (h271 1 1) = (h263 1 1) ∧ (h271 90 2) = (h263 90 2) ∧ (h271 0 10) = (h263 0 10) ∧ (h271 0 11) = (h263 0 11) ∧ (h271 0 12) = (h263 0 12) ∧ (h271 0 13) = (h263 0 13) ∧ (h271 3 1) = (h263 3 1) ∧ (h271 36 8) = (h263 36 8) ∧ (h271 46 3) = (h263 46 3) ∧ (h271 46 4) = (h263 46 4) ∧ (h271 49 4) = (h263 49 4) ∧ (h271 49 5) = (h263 49 5) ∧ (h271 64 0) = (h263 64 0) ∧ (h271 76 0) = (h263 76 0) := f269
          clear f269
          have e274 : h271 0 10 = 70 := by omega
          have e275 : h271 0 11 = 58 := by omega
          have e276 : h271 0 12 = 86 := by omega
          refine ov_blk (ls2 := [(0, ov_r 0), (1, ov_i v189), (2, ov_r 58)]) (st2 := [ov_r 0]) (pc2 := 60) b_23_59_1 rfl rfl ?_
          refine ov_cV (as := []) (st := []) (d2 := d - 1) d_23_60 lk_OF_119 rfl (Nat.le_of_ble_eq_true rfl) (c := 0) (zb_0 I272) (zs_0 I272) ⟨by decide, rfl⟩ (by omega) (c_OF_forgetReckonings_0 (d - 1) (by omega) U I272) ?_
          rintro _ z278 h279 ⟨rfl, I280, f277⟩
          show ov_R u d ov_m23 63 [(0, ov_r 0), (1, ov_i v189), (2, ov_r 58)] [] z278 h279 (P_OF_town_0_s f0 F z h)
          have f281 : (h279 36 7) = 0 ∧ (h279 1 1) = (h271 1 1) ∧ (h279 90 2) = (h271 90 2) ∧ (h279 0 10) = (h271 0 10) ∧ (h279 0 11) = (h271 0 11) ∧ (h279 0 12) = (h271 0 12) ∧ (h279 0 13) = (h271 0 13) ∧ (h279 3 1) = (h271 3 1) ∧ (h279 36 8) = (h271 36 8) ∧ (h279 46 3) = (h271 46 3) ∧ (h279 46 4) = (h271 46 4) ∧ (h279 49 4) = (h271 49 4) ∧ (h279 49 5) = (h271 49 5) ∧ (h279 64 0) = (h271 64 0) ∧ (h279 76 0) = (h271 76 0) := f277
          clear f277
          have e282 : h279 0 10 = 70 := by omega
          have e283 : h279 0 11 = 58 := by omega
          have e284 : h279 0 12 = 86 := by omega
          refine ov_blk (ls2 := [(0, ov_r 0), (1, ov_i v189), (2, ov_r 58)]) (st2 := [ov_i v189]) (pc2 := 64) b_23_63_1 rfl rfl ?_
          have gf285 : 1 ≤ (h279 70 0) ∧ 1 ≤ (h279 70 1) := ov_I_fg (h := h279) (T := 70) (by omega) I280
          have gk : F (-5) 58 = 1 := by omega
          have gf286 : 1 ≤ (h279 58 0) ∧ 1 ≤ (h279 58 1) := ov_I_fk (h := h279) (S := 58) (by omega) I280 gk
          exact ov_reti (st := []) d_23_64 rfl ⟨_, rfl, (ov_I_fd I280), (by show (h279 1 1) = 0 ∧ ((h279 36 7) = 1 → (h279 36 8) = (h279 0 10)) ∧ ((h279 0 10) = 58 ∧ (h279 0 11) = 70 ∧ 0 ≤ (h279 64 0) ∧ 1 ≤ (h279 58 0) ∧ 1 ≤ (h279 58 1) ∨ (h279 0 10) = 70 ∧ (h279 0 11) = 58 ∧ 0 ≤ (h279 76 0) ∧ 1 ≤ (h279 70 0) ∧ 1 ≤ (h279 70 1)) ∧ v189 = f0 ∧ (h279 90 2) = (h 90 2) ∧ (h279 0 12) = (h 0 12) ∧ (h279 0 13) = (h 0 13) ∧ (h279 46 3) = (h 46 3) ∧ (h279 46 4) = (h 46 4) ∧ (h279 49 4) = (h 49 4) ∧ (h279 49 5) = (h 49 5); omega)⟩
      · skip
        refine ov_getf (v := ov_r 70) d_23_17 fl_OF_78 (zb_0 I195) (zs_0 I195) (congrArg ov_r e199) ?_
        refine ov_blk (ls2 := [(0, ov_r 0), (1, ov_i v189), (2, ov_r 70)]) (st2 := [ov_r 0, ov_r 0]) (pc2 := 23) b_23_20_3 rfl rfl ?_
        refine ov_getf (v := ov_r 70) d_23_23 fl_OF_82 (zb_0 I195) (zs_0 I195) (congrArg ov_r e194) ?_
        refine ov_putf (x := 70) d_23_26 fl_OF_78 (zb_0 I195) (zs_0 I195) rfl nk_2 rfl ?_
        have I287 := up_0_10 (x := 70) I195 (by omega) ((ov_kwu hw) 0 (by decide +kernel))
        refine ov_blk (ls2 := [(0, ov_r 0), (1, ov_i v189), (2, ov_r 70)]) (st2 := [ov_r 70, ov_r 0]) (pc2 := 31) b_23_29_2 rfl rfl ?_
        refine ov_putf (x := 70) d_23_31 fl_OF_82 (zb_0 I287) (zs_0 I287) rfl nk_2 rfl ?_
        have I288 := up_0_11 (x := 70) I287 (by omega) ((ov_kwu hw) 0 (by decide +kernel))
        refine ov_blk (ls2 := [(0, ov_r 0), (1, ov_i v189), (2, ov_r 70)]) (st2 := [ov_r 0]) (pc2 := 35) b_23_34_1 rfl rfl ?_
        rcases rg_0_12 I195 with e289 | e289
        · skip
          refine ov_getf (v := ov_r 82) d_23_35 fl_OF_88 (zb_0 I288) (zs_0 I288) (congrArg ov_r e289) ?_
          refine ov_cV (as := []) (st := []) (d2 := d - 1) d_23_38 lk_OF_113 rfl (Nat.le_of_ble_eq_true rfl) (c := 10) (zb_82 I288) (zs_82 I288) ⟨by decide, rfl⟩ (by omega) (c_Walk_clear_82 (d - 1) (by omega) U I288 (ov_kws (ov_kwu hw) (by decide +kernel))) ?_
          rintro _ z291 h292 ⟨rfl, I293, f290⟩
          show ov_R u d ov_m23 41 [(0, ov_r 0), (1, ov_i v189), (2, ov_r 70)] [] z291 h292 (P_OF_town_0_s f0 F z h)
          have f294 : (h292 36 7) = (h191 36 7) ∧ (h292 1 1) = (h191 1 1) ∧ (h292 90 2) = (h191 90 2) ∧ (h292 0 10) = 70 ∧ (h292 0 11) = 70 ∧ (h292 0 12) = (h191 0 12) ∧ (h292 0 13) = (h191 0 13) ∧ (h292 3 1) = (h191 3 1) ∧ (h292 36 8) = (h191 36 8) ∧ (h292 46 3) = (h191 46 3) ∧ (h292 46 4) = (h191 46 4) ∧ (h292 49 4) = (h191 49 4) ∧ (h292 49 5) = (h191 49 5) ∧ (h292 64 0) = (h191 64 0) ∧ (h292 76 0) = (h191 76 0) := f290
          clear f290
          have e295 : h292 0 10 = 70 := by omega
          have e296 : h292 0 11 = 70 := by omega
          have e297 : h292 0 12 = 82 := by omega
          refine ov_blk (ls2 := [(0, ov_r 0), (1, ov_i v189), (2, ov_r 70)]) (st2 := [ov_r 0]) (pc2 := 42) b_23_41_1 rfl rfl ?_
          refine ov_getf (v := ov_r 4) d_23_42 fl_OF_28 (zb_0 I293) (zs_0 I293) (congrArg ov_r (rg_0_2 I293)) ?_
          refine ov_cV (as := []) (st := []) (d2 := d - 1) d_23_45 lk_OF_114 rfl (Nat.le_of_ble_eq_true rfl) (c := 7) (zb_4 I293) (zs_4 I293) ⟨by decide, rfl⟩ (by omega) (c_State_clear_4 (d - 1) (by omega) U I293 (ov_kws (ov_kwu hw) (by decide +kernel))) ?_
          rintro _ z299 h300 ⟨rfl, I301, f298⟩
          show ov_R u d ov_m23 48 [(0, ov_r 0), (1, ov_i v189), (2, ov_r 70)] [] z299 h300 (P_OF_town_0_s f0 F z h)
          have f302 : (h300 36 7) = (h292 36 7) ∧ (h300 1 1) = (h292 1 1) ∧ (h300 90 2) = (h292 90 2) ∧ (h300 0 10) = (h292 0 10) ∧ (h300 0 11) = (h292 0 11) ∧ (h300 0 12) = (h292 0 12) ∧ (h300 0 13) = (h292 0 13) ∧ (h300 3 1) = (h292 3 1) ∧ (h300 36 8) = (h292 36 8) ∧ (h300 46 3) = (h292 46 3) ∧ (h300 46 4) = (h292 46 4) ∧ (h300 49 4) = (h292 49 4) ∧ (h300 49 5) = (h292 49 5) ∧ (h300 64 0) = (h292 64 0) ∧ (h300 76 0) = (h292 76 0) := f298
          clear f298
          have e303 : h300 0 10 = 70 := by omega
          have e304 : h300 0 11 = 70 := by omega
          have e305 : h300 0 12 = 82 := by omega
          refine ov_blk (ls2 := [(0, ov_r 0), (1, ov_i v189), (2, ov_r 70)]) (st2 := [ov_r 0]) (pc2 := 49) b_23_48_1 rfl rfl ?_
          refine ov_getf (v := ov_r 9) d_23_49 fl_OF_35 (zb_0 I301) (zs_0 I301) (congrArg ov_r (rg_0_3 I301)) ?_
          refine ov_cV (as := []) (st := []) (d2 := d - 1) d_23_52 lk_OF_115 rfl (Nat.le_of_ble_eq_true rfl) (c := 3) (zb_9 I301) (zs_9 I301) ⟨by decide, rfl⟩ (by omega) (c_History_clear_9 (d - 1) (by omega) U I301 (ov_kws (ov_kwu hw) (by decide +kernel))) ?_
          rintro _ z307 h308 ⟨rfl, I309, f306⟩
          show ov_R u d ov_m23 55 [(0, ov_r 0), (1, ov_i v189), (2, ov_r 70)] [] z307 h308 (P_OF_town_0_s f0 F z h)
          have f310 : (h308 36 7) = (h300 36 7) ∧ (h308 1 1) = (h300 1 1) ∧ (h308 90 2) = (h300 90 2) ∧ (h308 0 10) = (h300 0 10) ∧ (h308 0 11) = (h300 0 11) ∧ (h308 0 12) = (h300 0 12) ∧ (h308 0 13) = (h300 0 13) ∧ (h308 3 1) = (h300 3 1) ∧ (h308 36 8) = (h300 36 8) ∧ (h308 46 3) = (h300 46 3) ∧ (h308 46 4) = (h300 46 4) ∧ (h308 49 4) = (h300 49 4) ∧ (h308 49 5) = (h300 49 5) ∧ (h308 64 0) = (h300 64 0) ∧ (h308 76 0) = (h300 76 0) := f306
          clear f306
          have e311 : h308 0 10 = 70 := by omega
          have e312 : h308 0 11 = 70 := by omega
          have e313 : h308 0 12 = 82 := by omega
          refine ov_blk (ls2 := [(0, ov_r 0), (1, ov_i v189), (2, ov_r 70)]) (st2 := [ov_r 0]) (pc2 := 56) b_23_55_1 rfl rfl ?_
          refine ov_cV (as := []) (st := []) (d2 := d - 1) d_23_56 lk_OF_116 rfl (Nat.le_of_ble_eq_true rfl) (c := 0) (zb_0 I309) (zs_0 I309) ⟨by decide, rfl⟩ (by omega) (c_OF_forgetMarks_0 (d - 1) (by omega) U I309 (ov_kws (ov_kwu hw) (by decide +kernel))) ?_
          rintro _ z315 h316 ⟨rfl, I317, f314⟩
          show ov_R u d ov_m23 59 [(0, ov_r 0), (1, ov_i v189), (2, ov_r 70)] [] z315 h316 (P_OF_town_0_s f0 F z h)
          have f318 : (h316 36 7) = (h308 36 7) ∧ (h316 1 1) = (h308 1 1) ∧ (h316 90 2) = (h308 90 2) ∧ (h316 0 10) = (h308 0 10) ∧ (h316 0 11) = (h308 0 11) ∧ (h316 0 12) = (h308 0 12) ∧ (h316 0 13) = (h308 0 13) ∧ (h316 3 1) = (h308 3 1) ∧ (h316 36 8) = (h308 36 8) ∧ (h316 46 3) = (h308 46 3) ∧ (h316 46 4) = (h308 46 4) ∧ (h316 49 4) = (h308 49 4) ∧ (h316 49 5) = (h308 49 5) ∧ (h316 64 0) = (h308 64 0) ∧ (h316 76 0) = (h308 76 0) := f314
          clear f314
          have e319 : h316 0 10 = 70 := by omega
          have e320 : h316 0 11 = 70 := by omega
          have e321 : h316 0 12 = 82 := by omega
          refine ov_blk (ls2 := [(0, ov_r 0), (1, ov_i v189), (2, ov_r 70)]) (st2 := [ov_r 0]) (pc2 := 60) b_23_59_1 rfl rfl ?_
          refine ov_cV (as := []) (st := []) (d2 := d - 1) d_23_60 lk_OF_119 rfl (Nat.le_of_ble_eq_true rfl) (c := 0) (zb_0 I317) (zs_0 I317) ⟨by decide, rfl⟩ (by omega) (c_OF_forgetReckonings_0 (d - 1) (by omega) U I317) ?_
          rintro _ z323 h324 ⟨rfl, I325, f322⟩
          show ov_R u d ov_m23 63 [(0, ov_r 0), (1, ov_i v189), (2, ov_r 70)] [] z323 h324 (P_OF_town_0_s f0 F z h)
          have f326 : (h324 36 7) = 0 ∧ (h324 1 1) = (h316 1 1) ∧ (h324 90 2) = (h316 90 2) ∧ (h324 0 10) = (h316 0 10) ∧ (h324 0 11) = (h316 0 11) ∧ (h324 0 12) = (h316 0 12) ∧ (h324 0 13) = (h316 0 13) ∧ (h324 3 1) = (h316 3 1) ∧ (h324 36 8) = (h316 36 8) ∧ (h324 46 3) = (h316 46 3) ∧ (h324 46 4) = (h316 46 4) ∧ (h324 49 4) = (h316 49 4) ∧ (h324 49 5) = (h316 49 5) ∧ (h324 64 0) = (h316 64 0) ∧ (h324 76 0) = (h316 76 0) := f322
          clear f322
          have e327 : h324 0 10 = 70 := by omega
          have e328 : h324 0 11 = 70 := by omega
          have e329 : h324 0 12 = 82 := by omega
          refine ov_blk (ls2 := [(0, ov_r 0), (1, ov_i v189), (2, ov_r 70)]) (st2 := [ov_i v189]) (pc2 := 64) b_23_63_1 rfl rfl ?_
          have gf330 : 1 ≤ (h324 70 0) ∧ 1 ≤ (h324 70 1) := ov_I_fg (h := h324) (T := 70) (by omega) I325
          have gk : F (-5) 58 = 1 := by omega
          have gf331 : 1 ≤ (h324 58 0) ∧ 1 ≤ (h324 58 1) := ov_I_fk (h := h324) (S := 58) (by omega) I325 gk
          exact ov_reti (st := []) d_23_64 rfl ⟨_, rfl, (ov_I_fd I325), (by show (h324 1 1) = 0 ∧ ((h324 36 7) = 1 → (h324 36 8) = (h324 0 10)) ∧ ((h324 0 10) = 58 ∧ (h324 0 11) = 70 ∧ 0 ≤ (h324 64 0) ∧ 1 ≤ (h324 58 0) ∧ 1 ≤ (h324 58 1) ∨ (h324 0 10) = 70 ∧ (h324 0 11) = 58 ∧ 0 ≤ (h324 76 0) ∧ 1 ≤ (h324 70 0) ∧ 1 ≤ (h324 70 1)) ∧ v189 = f0 ∧ (h324 90 2) = (h 90 2) ∧ (h324 0 12) = (h 0 12) ∧ (h324 0 13) = (h 0 13) ∧ (h324 46 3) = (h 46 3) ∧ (h324 46 4) = (h 46 4) ∧ (h324 49 4) = (h 49 4) ∧ (h324 49 5) = (h 49 5); omega)⟩
        · skip
          refine ov_getf (v := ov_r 86) d_23_35 fl_OF_88 (zb_0 I288) (zs_0 I288) (congrArg ov_r e289) ?_
          refine ov_cV (as := []) (st := []) (d2 := d - 1) d_23_38 lk_OF_113 rfl (Nat.le_of_ble_eq_true rfl) (c := 10) (zb_86 I288) (zs_86 I288) ⟨by decide, rfl⟩ (by omega) (c_Walk_clear_86 (d - 1) (by omega) U I288 (ov_kws (ov_kwu hw) (by decide +kernel))) ?_
          rintro _ z333 h334 ⟨rfl, I335, f332⟩
          show ov_R u d ov_m23 41 [(0, ov_r 0), (1, ov_i v189), (2, ov_r 70)] [] z333 h334 (P_OF_town_0_s f0 F z h)
          have f336 : (h334 36 7) = (h191 36 7) ∧ (h334 1 1) = (h191 1 1) ∧ (h334 90 2) = (h191 90 2) ∧ (h334 0 10) = 70 ∧ (h334 0 11) = 70 ∧ (h334 0 12) = (h191 0 12) ∧ (h334 0 13) = (h191 0 13) ∧ (h334 3 1) = (h191 3 1) ∧ (h334 36 8) = (h191 36 8) ∧ (h334 46 3) = (h191 46 3) ∧ (h334 46 4) = (h191 46 4) ∧ (h334 49 4) = (h191 49 4) ∧ (h334 49 5) = (h191 49 5) ∧ (h334 64 0) = (h191 64 0) ∧ (h334 76 0) = (h191 76 0) := f332
          clear f332
          have e337 : h334 0 10 = 70 := by omega
          have e338 : h334 0 11 = 70 := by omega
          have e339 : h334 0 12 = 86 := by omega
          refine ov_blk (ls2 := [(0, ov_r 0), (1, ov_i v189), (2, ov_r 70)]) (st2 := [ov_r 0]) (pc2 := 42) b_23_41_1 rfl rfl ?_
          refine ov_getf (v := ov_r 4) d_23_42 fl_OF_28 (zb_0 I335) (zs_0 I335) (congrArg ov_r (rg_0_2 I335)) ?_
          refine ov_cV (as := []) (st := []) (d2 := d - 1) d_23_45 lk_OF_114 rfl (Nat.le_of_ble_eq_true rfl) (c := 7) (zb_4 I335) (zs_4 I335) ⟨by decide, rfl⟩ (by omega) (c_State_clear_4 (d - 1) (by omega) U I335 (ov_kws (ov_kwu hw) (by decide +kernel))) ?_
          rintro _ z341 h342 ⟨rfl, I343, f340⟩
          show ov_R u d ov_m23 48 [(0, ov_r 0), (1, ov_i v189), (2, ov_r 70)] [] z341 h342 (P_OF_town_0_s f0 F z h)
          have f344 : (h342 36 7) = (h334 36 7) ∧ (h342 1 1) = (h334 1 1) ∧ (h342 90 2) = (h334 90 2) ∧ (h342 0 10) = (h334 0 10) ∧ (h342 0 11) = (h334 0 11) ∧ (h342 0 12) = (h334 0 12) ∧ (h342 0 13) = (h334 0 13) ∧ (h342 3 1) = (h334 3 1) ∧ (h342 36 8) = (h334 36 8) ∧ (h342 46 3) = (h334 46 3) ∧ (h342 46 4) = (h334 46 4) ∧ (h342 49 4) = (h334 49 4) ∧ (h342 49 5) = (h334 49 5) ∧ (h342 64 0) = (h334 64 0) ∧ (h342 76 0) = (h334 76 0) := f340
          clear f340
          have e345 : h342 0 10 = 70 := by omega
          have e346 : h342 0 11 = 70 := by omega
          have e347 : h342 0 12 = 86 := by omega
          refine ov_blk (ls2 := [(0, ov_r 0), (1, ov_i v189), (2, ov_r 70)]) (st2 := [ov_r 0]) (pc2 := 49) b_23_48_1 rfl rfl ?_
          refine ov_getf (v := ov_r 9) d_23_49 fl_OF_35 (zb_0 I343) (zs_0 I343) (congrArg ov_r (rg_0_3 I343)) ?_
          refine ov_cV (as := []) (st := []) (d2 := d - 1) d_23_52 lk_OF_115 rfl (Nat.le_of_ble_eq_true rfl) (c := 3) (zb_9 I343) (zs_9 I343) ⟨by decide, rfl⟩ (by omega) (c_History_clear_9 (d - 1) (by omega) U I343 (ov_kws (ov_kwu hw) (by decide +kernel))) ?_
          rintro _ z349 h350 ⟨rfl, I351, f348⟩
          show ov_R u d ov_m23 55 [(0, ov_r 0), (1, ov_i v189), (2, ov_r 70)] [] z349 h350 (P_OF_town_0_s f0 F z h)
          have f352 : (h350 36 7) = (h342 36 7) ∧ (h350 1 1) = (h342 1 1) ∧ (h350 90 2) = (h342 90 2) ∧ (h350 0 10) = (h342 0 10) ∧ (h350 0 11) = (h342 0 11) ∧ (h350 0 12) = (h342 0 12) ∧ (h350 0 13) = (h342 0 13) ∧ (h350 3 1) = (h342 3 1) ∧ (h350 36 8) = (h342 36 8) ∧ (h350 46 3) = (h342 46 3) ∧ (h350 46 4) = (h342 46 4) ∧ (h350 49 4) = (h342 49 4) ∧ (h350 49 5) = (h342 49 5) ∧ (h350 64 0) = (h342 64 0) ∧ (h350 76 0) = (h342 76 0) := f348
          clear f348
          have e353 : h350 0 10 = 70 := by omega
          have e354 : h350 0 11 = 70 := by omega
          have e355 : h350 0 12 = 86 := by omega
          refine ov_blk (ls2 := [(0, ov_r 0), (1, ov_i v189), (2, ov_r 70)]) (st2 := [ov_r 0]) (pc2 := 56) b_23_55_1 rfl rfl ?_
          refine ov_cV (as := []) (st := []) (d2 := d - 1) d_23_56 lk_OF_116 rfl (Nat.le_of_ble_eq_true rfl) (c := 0) (zb_0 I351) (zs_0 I351) ⟨by decide, rfl⟩ (by omega) (c_OF_forgetMarks_0 (d - 1) (by omega) U I351 (ov_kws (ov_kwu hw) (by decide +kernel))) ?_
          rintro _ z357 h358 ⟨rfl, I359, f356⟩
          show ov_R u d ov_m23 59 [(0, ov_r 0), (1, ov_i v189), (2, ov_r 70)] [] z357 h358 (P_OF_town_0_s f0 F z h)
          have f360 : (h358 36 7) = (h350 36 7) ∧ (h358 1 1) = (h350 1 1) ∧ (h358 90 2) = (h350 90 2) ∧ (h358 0 10) = (h350 0 10) ∧ (h358 0 11) = (h350 0 11) ∧ (h358 0 12) = (h350 0 12) ∧ (h358 0 13) = (h350 0 13) ∧ (h358 3 1) = (h350 3 1) ∧ (h358 36 8) = (h350 36 8) ∧ (h358 46 3) = (h350 46 3) ∧ (h358 46 4) = (h350 46 4) ∧ (h358 49 4) = (h350 49 4) ∧ (h358 49 5) = (h350 49 5) ∧ (h358 64 0) = (h350 64 0) ∧ (h358 76 0) = (h350 76 0) := f356
          clear f356
          have e361 : h358 0 10 = 70 := by omega
          have e362 : h358 0 11 = 70 := by omega
          have e363 : h358 0 12 = 86 := by omega
          refine ov_blk (ls2 := [(0, ov_r 0), (1, ov_i v189), (2, ov_r 70)]) (st2 := [ov_r 0]) (pc2 := 60) b_23_59_1 rfl rfl ?_
          refine ov_cV (as := []) (st := []) (d2 := d - 1) d_23_60 lk_OF_119 rfl (Nat.le_of_ble_eq_true rfl) (c := 0) (zb_0 I359) (zs_0 I359) ⟨by decide, rfl⟩ (by omega) (c_OF_forgetReckonings_0 (d - 1) (by omega) U I359) ?_
          rintro _ z365 h366 ⟨rfl, I367, f364⟩
          show ov_R u d ov_m23 63 [(0, ov_r 0), (1, ov_i v189), (2, ov_r 70)] [] z365 h366 (P_OF_town_0_s f0 F z h)
          have f368 : (h366 36 7) = 0 ∧ (h366 1 1) = (h358 1 1) ∧ (h366 90 2) = (h358 90 2) ∧ (h366 0 10) = (h358 0 10) ∧ (h366 0 11) = (h358 0 11) ∧ (h366 0 12) = (h358 0 12) ∧ (h366 0 13) = (h358 0 13) ∧ (h366 3 1) = (h358 3 1) ∧ (h366 36 8) = (h358 36 8) ∧ (h366 46 3) = (h358 46 3) ∧ (h366 46 4) = (h358 46 4) ∧ (h366 49 4) = (h358 49 4) ∧ (h366 49 5) = (h358 49 5) ∧ (h366 64 0) = (h358 64 0) ∧ (h366 76 0) = (h358 76 0) := f364
          clear f364
          have e369 : h366 0 10 = 70 := by omega
          have e370 : h366 0 11 = 70 := by omega
          have e371 : h366 0 12 = 86 := by omega
          refine ov_blk (ls2 := [(0, ov_r 0), (1, ov_i v189), (2, ov_r 70)]) (st2 := [ov_i v189]) (pc2 := 64) b_23_63_1 rfl rfl ?_
          have gf372 : 1 ≤ (h366 70 0) ∧ 1 ≤ (h366 70 1) := ov_I_fg (h := h366) (T := 70) (by omega) I367
          have gk : F (-5) 58 = 1 := by omega
          have gf373 : 1 ≤ (h366 58 0) ∧ 1 ≤ (h366 58 1) := ov_I_fk (h := h366) (S := 58) (by omega) I367 gk
          exact ov_reti (st := []) d_23_64 rfl ⟨_, rfl, (ov_I_fd I367), (by show (h366 1 1) = 0 ∧ ((h366 36 7) = 1 → (h366 36 8) = (h366 0 10)) ∧ ((h366 0 10) = 58 ∧ (h366 0 11) = 70 ∧ 0 ≤ (h366 64 0) ∧ 1 ≤ (h366 58 0) ∧ 1 ≤ (h366 58 1) ∨ (h366 0 10) = 70 ∧ (h366 0 11) = 58 ∧ 0 ≤ (h366 76 0) ∧ 1 ≤ (h366 70 0) ∧ 1 ≤ (h366 70 1)) ∧ v189 = f0 ∧ (h366 90 2) = (h 90 2) ∧ (h366 0 12) = (h 0 12) ∧ (h366 0 13) = (h 0 13) ∧ (h366 46 3) = (h 46 3) ∧ (h366 46 4) = (h 46 4) ∧ (h366 49 4) = (h 49 4) ∧ (h366 49 5) = (h 49 5); omega)⟩
set_option maxHeartbeats 4000000 in
theorem c_Mo_town_90_s {u : ov_U} {F : ov_H × ov_Z} (t : Int → Int) (m f0 : Int) (hf : ∀ (f : Int) (B : Int → Int), pt_ET t m f B → f = f0) {z : ov_Z} {h : ov_H} (et : h 91 = t) (em : h 90 2 = m) (wd : pt_WD (h 95)) (d : Nat) (hd : 60 ≤ d) (U : ov_cap u) (I : ov_N F z h) (p0 : 0 ≤ ov_bd F ∧ ov_bd F ≤ 800000000) (p1 : 0 ≤ (h 90 22) ∧ (h 90 22) ≤ 2000000000) : ov_T u d ov_m205 [ov_r 90] z h (fun r0 z' h' => ∃ r : Int, r0 = some (ov_i r) ∧ (ov_N F z' h' ∧ ((h' 90 25) = (h 90 25) ∧ (h' 90 26) = (h 90 26) ∧ (h' 90 28) = (h 90 28) ∧ (h' 90 29) = (h 90 29) ∧ (h' 90 30) = (h 90 30) ∧ (h' 90 34) = (h 90 34) ∧ 0 ≤ r ∧ r ≤ 16005 ∧ (h' 90 2) = 0) ∧ h' 91 = h 91 ∧ h' 95 = h 95 ∧ h' 105 = h 105 ∧ h' 106 = h 106 ∧ h' 109 = h 109 ∧ h' 114 = h 114 ∧ ((ov_MK (h 96) (h 97) (h 98) (h' 96) (h' 97) (h' 98) ∧ (h' 100) = (h 100) ∧ (h' 103) = (h 103) ∧ (h' 90 22) = (h 90 22)) ∨ (ov_WT (h' 96) ∧ ov_CD (h' 96) (h' 97) (h' 98) ∧ (h' 100 0) = 0 ∧ (h' 90 22) = (h 90 22) + 1))) ∧ r = f0) := by
  have gm := rg_90_2 I
  refine ov_T_ri (X := fun r => r = f0) (Q1 := fun r z' h' => ov_N F z' h' ∧ ((h' 90 25) = (h 90 25) ∧ (h' 90 26) = (h 90 26) ∧ (h' 90 28) = (h 90 28) ∧ (h' 90 29) = (h 90 29) ∧ (h' 90 30) = (h 90 30) ∧ (h' 90 34) = (h 90 34) ∧ 0 ≤ r ∧ r ≤ 16005 ∧ (h' 90 2) = 0) ∧ h' 91 = h 91 ∧ h' 95 = h 95 ∧ h' 105 = h 105 ∧ h' 106 = h 106 ∧ h' 109 = h 109 ∧ h' 114 = h 114 ∧ ((ov_MK (h 96) (h 97) (h 98) (h' 96) (h' 97) (h' 98) ∧ (h' 100) = (h 100) ∧ (h' 103) = (h 103) ∧ (h' 90 22) = (h 90 22)) ∨ (ov_WT (h' 96) ∧ ov_CD (h' 96) (h' 97) (h' 98) ∧ (h' 100 0) = 0 ∧ (h' 90 22) = (h 90 22) + 1))) (c_Mo_town_90 d hd U I p0 p1) (fun r z' h' q => ?_) (c_fMo_town_90 t m d (by omega) U I em (by omega) (by omega) et wd) (fun r z' h' q => ?_)
  · have f := q.2.1
    omega
  · obtain ⟨-, -, -, cs⟩ := q
    rcases cs with ⟨B, ar, tw, -⟩ | ⟨B, ar, tw, -⟩ <;> exact ⟨by omega, hf r B tw⟩

abbrev P_Mo_worthFrom_90 (F : ov_H × ov_Z) (z : ov_Z) (h : ov_H) (go : Int) (wt : Int) (sf : Int) (sm : Int) (x : Int) (y : Int) (s : Int) : Option ov_V → ov_Z → ov_H → Prop := fun r0 z' h' => ∃ r : Int, r0 = some (ov_i r) ∧ ov_N F z' h' ∧ ((h' 90 2) = (h 90 2) ∧ (h' 90 7) = (h 90 7) ∧ (h' 90 8) = (h 90 8) ∧ (h' 90 13) = (h 90 13) ∧ (h' 90 20) = (h 90 20) ∧ (h' 90 22) = (h 90 22) ∧ (h' 90 25) = (h 90 25) ∧ (h' 90 26) = (h 90 26) ∧ (h' 90 28) = (h 90 28) ∧ (h' 90 29) = (h 90 29) ∧ (h' 90 30) = (h 90 30) ∧ (h' 90 34) = (h 90 34) ∧ -1 ≤ r ∧ r ≤ 89000 * (13 - x - y)) ∧ h' 92 = h 92 ∧ h' 93 = h 93 ∧ h' 94 = h 94 ∧ h' 95 = h 95 ∧ h' 96 = h 96 ∧ h' 97 = h 97 ∧ h' 98 = h 98 ∧ h' 99 = h 99 ∧ h' 100 = h 100 ∧ h' 103 = h 103 ∧ h' 109 = h 109 ∧ h' 114 = h 114 ∧ (ov_MI (h 96) (h 103) (h 97) (h 98) go wt sf sm (h' 105) (h' 106)) ∧ ((0 ≤ r ↔ ov_go (h 96) (h 103) (h 97) (h 98) go wt sf x y (s % (h 96 9))))
abbrev P_Mo_worthHidden_90 (F : ov_H × ov_Z) (z : ov_Z) (h : ov_H) (go : Int) (wt : Int) (sf : Int) (sm : Int) (x : Int) (y : Int) (t : Int) : Option ov_V → ov_Z → ov_H → Prop := fun r0 z' h' => ∃ r : Int, r0 = some (ov_i r) ∧ ov_N F z' h' ∧ ((h' 90 2) = (h 90 2) ∧ (h' 90 7) = (h 90 7) ∧ (h' 90 8) = (h 90 8) ∧ (h' 90 13) = (h 90 13) ∧ (h' 90 20) = (h 90 20) ∧ (h' 90 22) = (h 90 22) ∧ (h' 90 25) = (h 90 25) ∧ (h' 90 26) = (h 90 26) ∧ (h' 90 28) = (h 90 28) ∧ (h' 90 29) = (h 90 29) ∧ (h' 90 30) = (h 90 30) ∧ (h' 90 34) = (h 90 34) ∧ -1 ≤ r ∧ r ≤ 89000 * (13 - x - y)) ∧ h' 92 = h 92 ∧ h' 93 = h 93 ∧ h' 94 = h 94 ∧ h' 95 = h 95 ∧ h' 96 = h 96 ∧ h' 97 = h 97 ∧ h' 98 = h 98 ∧ h' 99 = h 99 ∧ h' 100 = h 100 ∧ h' 103 = h 103 ∧ h' 109 = h 109 ∧ h' 114 = h 114 ∧ (ov_MI (h 96) (h 103) (h 97) (h 98) go wt sf sm (h' 105) (h' 106)) ∧ ((0 ≤ r ↔ ∀ q : Int, 0 ≤ q → q < (h 96) (10 + 4 * (6 * y + x) + 1) → ov_gs (h 96) (h 97) (h 98) (ov_go (h 96) (h 103) (h 97) (h 98) go wt sf) go x y t q))
abbrev P_Mo_worthSeen_90 (F : ov_H × ov_Z) (z : ov_Z) (h : ov_H) (go : Int) (wt : Int) (sf : Int) (sm : Int) (x : Int) (y : Int) (t : Int) (sn : Int) : Option ov_V → ov_Z → ov_H → Prop := fun r0 z' h' => ∃ r : Int, r0 = some (ov_i r) ∧ ov_N F z' h' ∧ ((h' 90 2) = (h 90 2) ∧ (h' 90 7) = (h 90 7) ∧ (h' 90 8) = (h 90 8) ∧ (h' 90 13) = (h 90 13) ∧ (h' 90 20) = (h 90 20) ∧ (h' 90 22) = (h 90 22) ∧ (h' 90 25) = (h 90 25) ∧ (h' 90 26) = (h 90 26) ∧ (h' 90 28) = (h 90 28) ∧ (h' 90 29) = (h 90 29) ∧ (h' 90 30) = (h 90 30) ∧ (h' 90 34) = (h 90 34) ∧ -1 ≤ r ∧ r ≤ 89000 * (13 - x - y)) ∧ h' 92 = h 92 ∧ h' 93 = h 93 ∧ h' 94 = h 94 ∧ h' 95 = h 95 ∧ h' 96 = h 96 ∧ h' 97 = h 97 ∧ h' 98 = h 98 ∧ h' 99 = h 99 ∧ h' 100 = h 100 ∧ h' 103 = h 103 ∧ h' 109 = h 109 ∧ h' 114 = h 114 ∧ (ov_MI (h 96) (h 103) (h 97) (h 98) go wt sf sm (h' 105) (h' 106)) ∧ ((0 ≤ r ↔ ov_gs (h 96) (h 97) (h 98) (ov_go (h 96) (h 103) (h 97) (h 98) go wt sf) go x y t sn))
abbrev P_Mo_worthBy_90 (F : ov_H × ov_Z) (z : ov_Z) (h : ov_H) (go : Int) (wt : Int) (sf : Int) (sm : Int) (x : Int) (y : Int) (way : Int) (t : Int) (sn : Int) : Option ov_V → ov_Z → ov_H → Prop := fun r0 z' h' => ∃ r : Int, r0 = some (ov_i r) ∧ ov_N F z' h' ∧ ((h' 90 2) = (h 90 2) ∧ (h' 90 7) = (h 90 7) ∧ (h' 90 8) = (h 90 8) ∧ (h' 90 13) = (h 90 13) ∧ (h' 90 20) = (h 90 20) ∧ (h' 90 22) = (h 90 22) ∧ (h' 90 25) = (h 90 25) ∧ (h' 90 26) = (h 90 26) ∧ (h' 90 28) = (h 90 28) ∧ (h' 90 29) = (h 90 29) ∧ (h' 90 30) = (h 90 30) ∧ (h' 90 34) = (h 90 34) ∧ -1 ≤ r ∧ r ≤ 89000 * (13 - x - y)) ∧ h' 92 = h 92 ∧ h' 93 = h 93 ∧ h' 94 = h 94 ∧ h' 95 = h 95 ∧ h' 96 = h 96 ∧ h' 97 = h 97 ∧ h' 98 = h 98 ∧ h' 99 = h 99 ∧ h' 100 = h 100 ∧ h' 103 = h 103 ∧ h' 109 = h 109 ∧ h' 114 = h 114 ∧ (ov_MI (h 96) (h 103) (h 97) (h 98) go wt sf sm (h' 105) (h' 106)) ∧ ((0 ≤ r ↔ ov_go (h 96) (h 103) (h 97) (h 98) go wt sf (x + 1 - way) (y + way) (ov_nx (h 96) t (ov_wm (h 96) (6 * y + x) way sn))))
abbrev P_Mo_wayOf_90 (F : ov_H × ov_Z) (z : ov_Z) (h : ov_H) (go : Int) (wt : Int) (sf : Int) (sm : Int) (x : Int) (y : Int) (t : Int) (sn : Int) : Option ov_V → ov_Z → ov_H → Prop := fun r0 z' h' => ∃ r : Int, r0 = some (ov_i r) ∧ ov_N F z' h' ∧ ((h' 90 2) = (h 90 2) ∧ (h' 90 7) = (h 90 7) ∧ (h' 90 8) = (h 90 8) ∧ (h' 90 13) = (h 90 13) ∧ (h' 90 20) = (h 90 20) ∧ (h' 90 22) = (h 90 22) ∧ (h' 90 25) = (h 90 25) ∧ (h' 90 26) = (h 90 26) ∧ (h' 90 28) = (h 90 28) ∧ (h' 90 29) = (h 90 29) ∧ (h' 90 30) = (h 90 30) ∧ (h' 90 34) = (h 90 34) ∧ -1 ≤ r ∧ r ≤ 1) ∧ h' 92 = h 92 ∧ h' 93 = h 93 ∧ h' 94 = h 94 ∧ h' 95 = h 95 ∧ h' 96 = h 96 ∧ h' 97 = h 97 ∧ h' 98 = h 98 ∧ h' 99 = h 99 ∧ h' 100 = h 100 ∧ h' 103 = h 103 ∧ h' 109 = h 109 ∧ h' 114 = h 114 ∧ (ov_MI (h 96) (h 103) (h 97) (h 98) go wt sf sm (h' 105) (h' 106)) ∧ (ov_wf (h 96) (h 97) (h 98) (ov_go (h 96) (h 103) (h 97) (h 98) go wt sf) go x y t sn r)
set_option maxHeartbeats 4000000 in
theorem c_Mo_worthBy_90 {u : ov_U} {F : ov_H × ov_Z} (go : Int) (wt : Int) (sf : Int) (sm : Int) (k : Nat) (HV : ∀ k' : Nat, k' < k → ∀ {z : ov_Z} {h : ov_H} (d : Nat) (hd : (10 + 5 * k' + 4) ≤ d) (U : ov_cap u) (I : ov_N F z h) (x : Int) (y : Int) (s : Int) (g_x : ov_g x) (g_y : ov_g y) (g_s : ov_g s) (p0 : 0 ≤ x ∧ x ≤ 5 ∧ 0 ≤ y ∧ y ≤ 8) (p1 : x < (h 96 0) ∧ y < (h 96 1)) (p2 : x + y + (k' : Int) = 13) (p3 : 0 ≤ s ∧ s ≤ 2000000) (p4 : (h 90 26) = go) (p5 : (h 90 29) = wt) (p6 : (h 90 30) = sf) (p7 : (h 90 25) = sm) (p8 : 0 ≤ go ∧ go ≤ 3 + (h 96 8)) (W : ov_WT (h 96)) (CD : ov_CD (h 96) (h 97) (h 98)) (MI : ov_MI (h 96) (h 103) (h 97) (h 98) go wt sf sm (h 105) (h 106)), ov_T u d ov_m272 [ov_r 90, ov_i x, ov_i y, ov_i s] z h (P_Mo_worthFrom_90 F z h go wt sf sm x y s)) {z : ov_Z} {h : ov_H} (d : Nat) (hd : (10 + 5 * k + 0) ≤ d) (U : ov_cap u) (I : ov_N F z h) (x : Int) (y : Int) (way : Int) (t : Int) (sn : Int) (g_x : ov_g x) (g_y : ov_g y) (g_way : ov_g way) (g_t : ov_g t) (g_sn : ov_g sn) (p0 : 0 ≤ x ∧ x ≤ 5 ∧ 0 ≤ y ∧ y ≤ 8) (p1 : x < (h 96 0) ∧ y < (h 96 1)) (p2 : 0 ≤ way ∧ way ≤ 1) (p3 : x + y + (k : Int) = 13) (p4 : 0 ≤ t ∧ t < (h 96 9)) (p5 : 0 ≤ sn ∧ sn ≤ 3000) (p6 : ((way = 0 → x < (h 96 0) - 1) ∧ (¬ way = 0 → y < (h 96 1) - 1)) ∧ (((h 96 (10 + 4 * (6 * y + x))) = 1 ∨ (h 96 (10 + 4 * (6 * y + x))) = 2) → (way = 0 → 0 < (h 96 (10 + 4 * (6 * y + x) + 3))) ∧ (¬ way = 0 → (h 96 (10 + 4 * (6 * y + x) + 3)) < (h 96 (10 + 4 * (6 * y + x) + 1))))) (p7 : (h 90 26) = go) (p8 : (h 90 29) = wt) (p9 : (h 90 30) = sf) (p10 : (h 90 25) = sm) (p11 : 0 ≤ go ∧ go ≤ 3 + (h 96 8)) (W : ov_WT (h 96)) (CD : ov_CD (h 96) (h 97) (h 98)) (MI : ov_MI (h 96) (h 103) (h 97) (h 98) go wt sf sm (h 105) (h 106)) : ov_T u d ov_m277 [ov_r 90, ov_i x, ov_i y, ov_i way, ov_i t, ov_i sn] z h (P_Mo_worthBy_90 F z h go wt sf sm x y way t sn) := by
  refine ov_en rfl (Nat.le_of_ble_eq_true rfl) ?_
  show ov_R u d ov_m277 0 [(0, ov_r 90), (1, ov_i x), (2, ov_i y), (3, ov_i way), (4, ov_i t), (5, ov_i sn)] [] z h (P_Mo_worthBy_90 F z h go wt sf sm x y way t sn)
  have t0 := t96_0 I
  have t1 := t96_1 I
  have t9 := t96_9 I
  refine ov_blk (ls2 := [(0, ov_r 90), (1, ov_i x), (2, ov_i y), (3, ov_i way), (4, ov_i t), (5, ov_i sn)]) (st2 := [ov_i sn, ov_i way, ov_i y, ov_i x, ov_r 90]) (pc2 := 6) b_277_0_5 rfl rfl ?_
  refine ov_cV (as := [ov_i x, ov_i y, ov_i way, ov_i sn]) (st := []) (d2 := d - 1) d_277_6 lk_Mo_315 rfl (Nat.le_of_ble_eq_true rfl) (c := 1) (zb_90 I) (zs_90 I) ⟨by decide, rfl⟩ (by omega) (c_Mo_waitFor_90 (d - 1) (by omega) U I x y way sn (by omega) (by omega) (by omega) (by omega) (by omega) (by omega) (by omega) (by show (((h 96 (10 + 4 * (6 * y + x))) = 1 ∨ (h 96 (10 + 4 * (6 * y + x))) = 2) → (way = 0 → 0 < (h 96 (10 + 4 * (6 * y + x) + 3))) ∧ (¬ way = 0 → (h 96 (10 + 4 * (6 * y + x) + 3)) < (h 96 (10 + 4 * (6 * y + x) + 1)))); omega) W) ?_
  rintro _ _ _ ⟨v2, rfl, rfl, rfl, f1⟩
  show ov_R u d ov_m277 9 [(0, ov_r 90), (1, ov_i x), (2, ov_i y), (3, ov_i way), (4, ov_i t), (5, ov_i sn)] [ov_i v2] z h (P_Mo_worthBy_90 F z h go wt sf sm x y way t sn)
  have f3 : 0 ≤ v2 ∧ v2 ≤ 59 ∧ v2 = ov_wm (h 96) (6 * y + x) way sn := f1
  clear f1
  refine ov_blk (ls2 := [(0, ov_r 90), (1, ov_i x), (2, ov_i y), (3, ov_i way), (4, ov_i t), (5, ov_i sn)]) (st2 := [ov_r 90, ov_i v2]) (pc2 := 10) b_277_9_1 rfl rfl ?_
  refine ov_getf (v := ov_r 96) d_277_10 fl_Mo_81 (zb_90 I) (zs_90 I) (congrArg ov_r (rg_90_10 I)) ?_
  refine ov_blk (ls2 := [(0, ov_r 90), (1, ov_i x), (2, ov_i y), (3, ov_i way), (4, ov_i t), (5, ov_i sn)]) (st2 := [ov_i 2, ov_r 96, ov_i v2]) (pc2 := 14) b_277_13_1 rfl rfl ?_
  refine ov_iald d_277_14 (zb_96 I) (zs_96 I) (by omega) ?_
  have g4 := t96_2 I
  refine ov_blk (ls2 := [(0, ov_r 90), (1, ov_i x), (2, ov_i y), (3, ov_i way), (4, ov_i t), (5, ov_i sn), (6, ov_i (v2 + (h 96 2)))]) (st2 := [ov_i (t + (v2 + (h 96 2))), ov_i (y + way), ov_i ((x + 1) - way), ov_r 90]) (pc2 := 32) b_277_15_14 rfl rfl ?_
  refine ov_cV (as := [ov_i ((x + 1) - way), ov_i (y + way), ov_i (t + (v2 + (h 96 2)))]) (st := []) (d2 := d - 1) d_277_32 lk_Mo_377 rfl (Nat.le_of_ble_eq_true rfl) (c := 1) (zb_90 I) (zs_90 I) ⟨by decide, rfl⟩ (by omega) (HV (Int.toNat (13 - (((x + 1) - way)) - ((y + way)))) (by omega) (d - 1) (by omega) U I ((x + 1) - way) (y + way) (t + (v2 + (h 96 2))) (by omega) (by omega) (by omega) (by omega) (by show ((x + 1) - way) < (h 96 0) ∧ (y + way) < (h 96 1); omega) (by omega) (by omega) (by show (h 90 26) = go; omega) (by show (h 90 29) = wt; omega) (by show (h 90 30) = sf; omega) (by show (h 90 25) = sm; omega) (by show 0 ≤ go ∧ go ≤ 3 + (h 96 8); omega) W CD MI) ?_
  rintro _ z21 h22 ⟨v6, rfl, I23, f5, e7, e8, e9, e10, e11, e12, e13, e14, e15, e16, e17, e18, y19, y20⟩
  have E24 : h22 92 = h 92 := e7
  have E25 : h22 93 = h 93 := e8
  have E26 : h22 94 = h 94 := e9
  have E27 : h22 95 = h 95 := e10
  have E28 : h22 96 = h 96 := e11
  have E29 : h22 97 = h 97 := e12
  have E30 : h22 98 = h 98 := e13
  have E31 : h22 99 = h 99 := e14
  have E32 : h22 100 = h 100 := e15
  have E33 : h22 103 = h 103 := e16
  have E34 : h22 109 = h 109 := e17
  have E35 : h22 114 = h 114 := e18
  show ov_R u d ov_m277 35 [(0, ov_r 90), (1, ov_i x), (2, ov_i y), (3, ov_i way), (4, ov_i t), (5, ov_i sn), (6, ov_i (v2 + (h 96 2)))] [ov_i v6] z21 h22 (P_Mo_worthBy_90 F z h go wt sf sm x y way t sn)
  have f36 : (h22 90 2) = (h 90 2) ∧ (h22 90 7) = (h 90 7) ∧ (h22 90 8) = (h 90 8) ∧ (h22 90 13) = (h 90 13) ∧ (h22 90 20) = (h 90 20) ∧ (h22 90 22) = (h 90 22) ∧ (h22 90 25) = (h 90 25) ∧ (h22 90 26) = (h 90 26) ∧ (h22 90 28) = (h 90 28) ∧ (h22 90 29) = (h 90 29) ∧ (h22 90 30) = (h 90 30) ∧ (h22 90 34) = (h 90 34) ∧ -1 ≤ v6 ∧ v6 ≤ 89000 * (13 - ((x + 1) - way) - (y + way)) := f5
  clear f5
  have y19_ : ov_MI (h 96) (h 103) (h 97) (h 98) go wt sf sm (h22 105) (h22 106) := y19
  have y20_ : (0 ≤ v6 ↔ ov_go (h 96) (h 103) (h 97) (h 98) go wt sf ((x + 1) - way) (y + way) ((t + (v2 + (h 96 2))) % (h 96 9))) := y20
  have ex : (t + (v2 + (h 96 2))) % h 96 9 = ov_nx (h 96) t (ov_wm (h 96) (6 * y + x) way sn) := by unfold ov_nx; congr 1; omega
  have wfx := y20_
  rw [ex] at wfx
  refine ov_blk (ls2 := [(0, ov_r 90), (1, ov_i x), (2, ov_i y), (3, ov_i way), (4, ov_i t), (5, ov_i sn), (6, ov_i (v2 + (h 96 2))), (7, ov_i v6)]) (st2 := [ov_i v6]) (pc2 := 39) b_277_35_2 rfl rfl ?_
  refine ov_ifge (tgt := 46) d_277_39 (by decide) (by omega) (fun c37 => ?_) (fun c37 => ?_)
  · skip
    refine ov_blk (ls2 := [(0, ov_r 90), (1, ov_i x), (2, ov_i y), (3, ov_i way), (4, ov_i t), (5, ov_i sn), (6, ov_i (v2 + (h 96 2))), (7, ov_i v6)]) (st2 := [ov_r 90, ov_i v6]) (pc2 := 49) b_277_46_2 rfl rfl ?_
    refine ov_getf (v := ov_i (h22 90 27)) d_277_49 fl_Mo_349 (zb_90 I23) (zs_90 I23) rfl ?_
    have g38 := rg_90_27 I23
    refine ov_ifeq (tgt := 60) d_277_52 (by decide) (by omega) (fun c39 => ?_) (fun c39 => ?_)
    · skip
      refine ov_blk (ls2 := [(0, ov_r 90), (1, ov_i x), (2, ov_i y), (3, ov_i way), (4, ov_i t), (5, ov_i sn), (6, ov_i (v2 + (h 96 2))), (7, ov_i v6)]) (st2 := [ov_i (v6 + (1000 * (v2 + (h 96 2))))]) (pc2 := 67) b_277_60_4 rfl rfl ?_
      exact ov_reti (st := []) d_277_67 rfl ⟨_, rfl, I23, (by show (h22 90 2) = (h 90 2) ∧ (h22 90 7) = (h 90 7) ∧ (h22 90 8) = (h 90 8) ∧ (h22 90 13) = (h 90 13) ∧ (h22 90 20) = (h 90 20) ∧ (h22 90 22) = (h 90 22) ∧ (h22 90 25) = (h 90 25) ∧ (h22 90 26) = (h 90 26) ∧ (h22 90 28) = (h 90 28) ∧ (h22 90 29) = (h 90 29) ∧ (h22 90 30) = (h 90 30) ∧ (h22 90 34) = (h 90 34) ∧ -1 ≤ (v6 + (1000 * (v2 + (h 96 2)))) ∧ (v6 + (1000 * (v2 + (h 96 2)))) ≤ 89000 * (13 - x - y); omega), E24, E25, E26, E27, E28, E29, E30, E31, E32, E33, E34, E35, y19_, (iff_of_true (by omega) (wfx.mp (by omega)))⟩
    · skip
      refine ov_blk (ls2 := [(0, ov_r 90), (1, ov_i x), (2, ov_i y), (3, ov_i way), (4, ov_i t), (5, ov_i sn), (6, ov_i (v2 + (h 96 2))), (7, ov_i v6)]) (st2 := [ov_i (v2 + (h 96 2)), ov_i v6]) (pc2 := 57) b_277_55_1 rfl rfl ?_
      refine ov_goto (tgt := 66) d_277_57 (by decide) ?_
      refine ov_blk (ls2 := [(0, ov_r 90), (1, ov_i x), (2, ov_i y), (3, ov_i way), (4, ov_i t), (5, ov_i sn), (6, ov_i (v2 + (h 96 2))), (7, ov_i v6)]) (st2 := [ov_i (v6 + (v2 + (h 96 2)))]) (pc2 := 67) b_277_66_1 rfl rfl ?_
      exact ov_reti (st := []) d_277_67 rfl ⟨_, rfl, I23, (by show (h22 90 2) = (h 90 2) ∧ (h22 90 7) = (h 90 7) ∧ (h22 90 8) = (h 90 8) ∧ (h22 90 13) = (h 90 13) ∧ (h22 90 20) = (h 90 20) ∧ (h22 90 22) = (h 90 22) ∧ (h22 90 25) = (h 90 25) ∧ (h22 90 26) = (h 90 26) ∧ (h22 90 28) = (h 90 28) ∧ (h22 90 29) = (h 90 29) ∧ (h22 90 30) = (h 90 30) ∧ (h22 90 34) = (h 90 34) ∧ -1 ≤ (v6 + (v2 + (h 96 2))) ∧ (v6 + (v2 + (h 96 2))) ≤ 89000 * (13 - x - y); omega), E24, E25, E26, E27, E28, E29, E30, E31, E32, E33, E34, E35, y19_, (iff_of_true (by omega) (wfx.mp (by omega)))⟩
  · skip
    refine ov_blk (ls2 := [(0, ov_r 90), (1, ov_i x), (2, ov_i y), (3, ov_i way), (4, ov_i t), (5, ov_i sn), (6, ov_i (v2 + (h 96 2))), (7, ov_i v6)]) (st2 := [ov_i (-1)]) (pc2 := 43) b_277_42_1 rfl rfl ?_
    refine ov_goto (tgt := 67) d_277_43 (by decide) ?_
    exact ov_reti (st := []) d_277_67 rfl ⟨_, rfl, I23, (by show (h22 90 2) = (h 90 2) ∧ (h22 90 7) = (h 90 7) ∧ (h22 90 8) = (h 90 8) ∧ (h22 90 13) = (h 90 13) ∧ (h22 90 20) = (h 90 20) ∧ (h22 90 22) = (h 90 22) ∧ (h22 90 25) = (h 90 25) ∧ (h22 90 26) = (h 90 26) ∧ (h22 90 28) = (h 90 28) ∧ (h22 90 29) = (h 90 29) ∧ (h22 90 30) = (h 90 30) ∧ (h22 90 34) = (h 90 34) ∧ -1 ≤ (-1) ∧ (-1) ≤ 89000 * (13 - x - y); omega), E24, E25, E26, E27, E28, E29, E30, E31, E32, E33, E34, E35, y19_, (iff_of_false (by decide) (fun a => absurd (wfx.mpr a) (by omega)))⟩
set_option maxHeartbeats 4000000 in
theorem c_Mo_wayOf_90 {u : ov_U} {F : ov_H × ov_Z} (go : Int) (wt : Int) (sf : Int) (sm : Int) (k : Nat) (HV : ∀ k' : Nat, k' < k → ∀ {z : ov_Z} {h : ov_H} (d : Nat) (hd : (10 + 5 * k' + 4) ≤ d) (U : ov_cap u) (I : ov_N F z h) (x : Int) (y : Int) (s : Int) (g_x : ov_g x) (g_y : ov_g y) (g_s : ov_g s) (p0 : 0 ≤ x ∧ x ≤ 5 ∧ 0 ≤ y ∧ y ≤ 8) (p1 : x < (h 96 0) ∧ y < (h 96 1)) (p2 : x + y + (k' : Int) = 13) (p3 : 0 ≤ s ∧ s ≤ 2000000) (p4 : (h 90 26) = go) (p5 : (h 90 29) = wt) (p6 : (h 90 30) = sf) (p7 : (h 90 25) = sm) (p8 : 0 ≤ go ∧ go ≤ 3 + (h 96 8)) (W : ov_WT (h 96)) (CD : ov_CD (h 96) (h 97) (h 98)) (MI : ov_MI (h 96) (h 103) (h 97) (h 98) go wt sf sm (h 105) (h 106)), ov_T u d ov_m272 [ov_r 90, ov_i x, ov_i y, ov_i s] z h (P_Mo_worthFrom_90 F z h go wt sf sm x y s)) {z : ov_Z} {h : ov_H} (d : Nat) (hd : (10 + 5 * k + 1) ≤ d) (U : ov_cap u) (I : ov_N F z h) (x : Int) (y : Int) (t : Int) (sn : Int) (g_x : ov_g x) (g_y : ov_g y) (g_t : ov_g t) (g_sn : ov_g sn) (p0 : 0 ≤ x ∧ x ≤ 5 ∧ 0 ≤ y ∧ y ≤ 8) (p1 : x < (h 96 0) ∧ y < (h 96 1)) (p2 : x + y + (k : Int) = 13) (p3 : 0 ≤ t ∧ t < (h 96 9)) (p4 : 0 ≤ sn ∧ sn ≤ 3000) (p5 : (h 90 26) = go) (p6 : (h 90 29) = wt) (p7 : (h 90 30) = sf) (p8 : (h 90 25) = sm) (p9 : 0 ≤ go ∧ go ≤ 3 + (h 96 8)) (W : ov_WT (h 96)) (CD : ov_CD (h 96) (h 97) (h 98)) (MI : ov_MI (h 96) (h 103) (h 97) (h 98) go wt sf sm (h 105) (h 106)) : ov_T u d ov_m276 [ov_r 90, ov_i x, ov_i y, ov_i t, ov_i sn] z h (P_Mo_wayOf_90 F z h go wt sf sm x y t sn) := by
  refine ov_en rfl (Nat.le_of_ble_eq_true rfl) ?_
  show ov_R u d ov_m276 0 [(0, ov_r 90), (1, ov_i x), (2, ov_i y), (3, ov_i t), (4, ov_i sn)] [] z h (P_Mo_wayOf_90 F z h go wt sf sm x y t sn)
  have t0 := t96_0 I
  have t1 := t96_1 I
  have t9 := t96_9 I
  refine ov_blk (ls2 := [(0, ov_r 90), (1, ov_i x), (2, ov_i y), (3, ov_i t), (4, ov_i sn)]) (st2 := [ov_i 0, ov_i y, ov_i x, ov_r 90]) (pc2 := 4) b_276_0_4 rfl rfl ?_
  refine ov_cV (as := [ov_i x, ov_i y, ov_i 0]) (st := []) (d2 := d - 1) d_276_4 lk_Mo_309 rfl (Nat.le_of_ble_eq_true rfl) (c := 1) (zb_90 I) (zs_90 I) ⟨by decide, rfl⟩ (by omega) (c_Mo_canGo_90 (d - 1) (by omega) U I x y 0 (by omega) (by omega) (by omega) (by omega) (by omega)) ?_
  rintro _ _ _ ⟨v2, rfl, rfl, rfl, f1⟩
  show ov_R u d ov_m276 7 [(0, ov_r 90), (1, ov_i x), (2, ov_i y), (3, ov_i t), (4, ov_i sn)] [ov_i v2] z h (P_Mo_wayOf_90 F z h go wt sf sm x y t sn)
  have f3 : (v2 = 0 ∨ v2 = 1) ∧ v2 = ov_cgi (h 96) x y (0 : Int) ∧ (v2 = 1 → (((0 : Int) = 0 → x < (h 96 0) - 1) ∧ (¬ (0 : Int) = 0 → y < (h 96 1) - 1)) ∧ (((h 96 (10 + 4 * (6 * y + x))) = 1 ∨ (h 96 (10 + 4 * (6 * y + x))) = 2) → ((0 : Int) = 0 → 0 < (h 96 (10 + 4 * (6 * y + x) + 3))) ∧ (¬ (0 : Int) = 0 → (h 96 (10 + 4 * (6 * y + x) + 3)) < (h 96 (10 + 4 * (6 * y + x) + 1))))) := f1
  clear f1
  refine ov_blk (ls2 := [(0, ov_r 90), (1, ov_i x), (2, ov_i y), (3, ov_i t), (4, ov_i sn), (5, ov_i v2)]) (st2 := [ov_i 1, ov_i y, ov_i x, ov_r 90]) (pc2 := 13) b_276_7_5 rfl rfl ?_
  refine ov_cV (as := [ov_i x, ov_i y, ov_i 1]) (st := []) (d2 := d - 1) d_276_13 lk_Mo_309 rfl (Nat.le_of_ble_eq_true rfl) (c := 1) (zb_90 I) (zs_90 I) ⟨by decide, rfl⟩ (by omega) (c_Mo_canGo_90 (d - 1) (by omega) U I x y 1 (by omega) (by omega) (by omega) (by omega) (by omega)) ?_
  rintro _ _ _ ⟨v5, rfl, rfl, rfl, f4⟩
  show ov_R u d ov_m276 16 [(0, ov_r 90), (1, ov_i x), (2, ov_i y), (3, ov_i t), (4, ov_i sn), (5, ov_i v2)] [ov_i v5] z h (P_Mo_wayOf_90 F z h go wt sf sm x y t sn)
  have f6 : (v5 = 0 ∨ v5 = 1) ∧ v5 = ov_cgi (h 96) x y (1 : Int) ∧ (v5 = 1 → (((1 : Int) = 0 → x < (h 96 0) - 1) ∧ (¬ (1 : Int) = 0 → y < (h 96 1) - 1)) ∧ (((h 96 (10 + 4 * (6 * y + x))) = 1 ∨ (h 96 (10 + 4 * (6 * y + x))) = 2) → ((1 : Int) = 0 → 0 < (h 96 (10 + 4 * (6 * y + x) + 3))) ∧ (¬ (1 : Int) = 0 → (h 96 (10 + 4 * (6 * y + x) + 3)) < (h 96 (10 + 4 * (6 * y + x) + 1))))) := f4
  clear f4
  refine ov_blk (ls2 := [(0, ov_r 90), (1, ov_i x), (2, ov_i y), (3, ov_i t), (4, ov_i sn), (5, ov_i v2), (6, ov_i v5)]) (st2 := [ov_r 90]) (pc2 := 19) b_276_16_2 rfl rfl ?_
  refine ov_getf (v := ov_i (h 90 26)) d_276_19 fl_Mo_116 (zb_90 I) (zs_90 I) rfl ?_
  have g7 := rg_90_26 I
  refine ov_blk (ls2 := [(0, ov_r 90), (1, ov_i x), (2, ov_i y), (3, ov_i t), (4, ov_i sn), (5, ov_i v2), (6, ov_i v5)]) (st2 := [ov_i 3, ov_i (h 90 26)]) (pc2 := 23) b_276_22_1 rfl rfl ?_
  refine ov_icne (tgt := 100) d_276_23 (by decide) (by omega) (by omega) (fun c8 => ?_) (fun c8 => ?_)
  · skip
    refine ov_blk (ls2 := [(0, ov_r 90), (1, ov_i x), (2, ov_i y), (3, ov_i t), (4, ov_i sn), (5, ov_i v2), (6, ov_i v5)]) (st2 := [ov_i v2]) (pc2 := 102) b_276_100_1 rfl rfl ?_
    refine ov_ifeq (tgt := 110) d_276_102 (by decide) (by omega) (fun c9 => ?_) (fun c9 => ?_)
    · skip
      have f3_ : v2 = 0 := by omega
      have f10 : v2 = ov_cgi (h 96) x y (0 : Int) := f3.2.1
      clear f3
      refine ov_blk (ls2 := [(0, ov_r 90), (1, ov_i x), (2, ov_i y), (3, ov_i t), (4, ov_i sn), (5, ov_i v2), (6, ov_i v5)]) (st2 := [ov_i v2]) (pc2 := 112) b_276_110_1 rfl rfl ?_
      refine ov_ifeq (tgt := 119) d_276_112 (by decide) (by omega) (fun c11 => ?_) (fun c11 => ?_)
      · skip
        refine ov_blk (ls2 := [(0, ov_r 90), (1, ov_i x), (2, ov_i y), (3, ov_i t), (4, ov_i sn), (5, ov_i v2), (6, ov_i v5)]) (st2 := [ov_i v5]) (pc2 := 121) b_276_119_1 rfl rfl ?_
        refine ov_ifeq (tgt := 128) d_276_121 (by decide) (by omega) (fun c12 => ?_) (fun c12 => ?_)
        · skip
          have f6_ : v5 = 0 := by omega
          have f13 : v5 = ov_cgi (h 96) x y (1 : Int) := f6.2.1
          clear f6
          refine ov_blk (ls2 := [(0, ov_r 90), (1, ov_i x), (2, ov_i y), (3, ov_i t), (4, ov_i sn), (5, ov_i v2), (6, ov_i v5)]) (st2 := [ov_i (-1)]) (pc2 := 129) b_276_128_1 rfl rfl ?_
          have ey : ov_wy (h 96) (h 97) (h 98) go x y sn = (-1) := by unfold ov_wy; repeat (first | rw [if_pos (by omega)] | rw [if_neg (by omega)])
          exact ov_reti (st := []) d_276_129 rfl ⟨_, rfl, I, ⟨rfl, rfl, rfl, rfl, rfl, rfl, rfl, rfl, rfl, rfl, rfl, rfl, (by show -1 ≤ (-1) ∧ (-1) ≤ 1; omega)⟩, rfl, rfl, rfl, rfl, rfl, rfl, rfl, rfl, rfl, rfl, rfl, rfl, MI, (ov_wf_o (by omega) (by omega) ey)⟩
        · skip
          have f6_ : v5 = 1 := by omega
          have f14 : v5 = ov_cgi (h 96) x y (1 : Int) := f6.2.1
          have f15 : (((1 : Int) = 0 → x < (h 96 0) - 1) ∧ (¬ (1 : Int) = 0 → y < (h 96 1) - 1)) ∧ (((h 96 (10 + 4 * (6 * y + x))) = 1 ∨ (h 96 (10 + 4 * (6 * y + x))) = 2) → ((1 : Int) = 0 → 0 < (h 96 (10 + 4 * (6 * y + x) + 3))) ∧ (¬ (1 : Int) = 0 → (h 96 (10 + 4 * (6 * y + x) + 3)) < (h 96 (10 + 4 * (6 * y + x) + 1)))) := f6.2.2 (by omega)
          clear f6
          refine ov_blk (ls2 := [(0, ov_r 90), (1, ov_i x), (2, ov_i y), (3, ov_i t), (4, ov_i sn), (5, ov_i v2), (6, ov_i v5)]) (st2 := [ov_i 1]) (pc2 := 125) b_276_124_1 rfl rfl ?_
          refine ov_goto (tgt := 129) d_276_125 (by decide) ?_
          have ey : ov_wy (h 96) (h 97) (h 98) go x y sn = 1 := by unfold ov_wy; repeat (first | rw [if_pos (by omega)] | rw [if_neg (by omega)])
          exact ov_reti (st := []) d_276_129 rfl ⟨_, rfl, I, ⟨rfl, rfl, rfl, rfl, rfl, rfl, rfl, rfl, rfl, rfl, rfl, rfl, (by show -1 ≤ 1 ∧ 1 ≤ 1; omega)⟩, rfl, rfl, rfl, rfl, rfl, rfl, rfl, rfl, rfl, rfl, rfl, rfl, MI, (ov_wf_o (by omega) (by omega) ey)⟩
      · omega
    · skip
      have f3_ : v2 = 1 := by omega
      have f16 : v2 = ov_cgi (h 96) x y (0 : Int) := f3.2.1
      have f17 : (((0 : Int) = 0 → x < (h 96 0) - 1) ∧ (¬ (0 : Int) = 0 → y < (h 96 1) - 1)) ∧ (((h 96 (10 + 4 * (6 * y + x))) = 1 ∨ (h 96 (10 + 4 * (6 * y + x))) = 2) → ((0 : Int) = 0 → 0 < (h 96 (10 + 4 * (6 * y + x) + 3))) ∧ (¬ (0 : Int) = 0 → (h 96 (10 + 4 * (6 * y + x) + 3)) < (h 96 (10 + 4 * (6 * y + x) + 1)))) := f3.2.2 (by omega)
      clear f3
      refine ov_blk (ls2 := [(0, ov_r 90), (1, ov_i x), (2, ov_i y), (3, ov_i t), (4, ov_i sn), (5, ov_i v2), (6, ov_i v5)]) (st2 := [ov_i v5]) (pc2 := 107) b_276_105_1 rfl rfl ?_
      refine ov_ifne (tgt := 130) d_276_107 (by decide) (by omega) (fun c18 => ?_) (fun c18 => ?_)
      · skip
        have f6_ : v5 = 1 := by omega
        have f19 : v5 = ov_cgi (h 96) x y (1 : Int) := f6.2.1
        have f20 : (((1 : Int) = 0 → x < (h 96 0) - 1) ∧ (¬ (1 : Int) = 0 → y < (h 96 1) - 1)) ∧ (((h 96 (10 + 4 * (6 * y + x))) = 1 ∨ (h 96 (10 + 4 * (6 * y + x))) = 2) → ((1 : Int) = 0 → 0 < (h 96 (10 + 4 * (6 * y + x) + 3))) ∧ (¬ (1 : Int) = 0 → (h 96 (10 + 4 * (6 * y + x) + 3)) < (h 96 (10 + 4 * (6 * y + x) + 1)))) := f6.2.2 (by omega)
        clear f6
        refine ov_blk (ls2 := [(0, ov_r 90), (1, ov_i x), (2, ov_i y), (3, ov_i t), (4, ov_i sn), (5, ov_i v2), (6, ov_i v5)]) (st2 := [ov_i sn, ov_i 0, ov_i y, ov_i x, ov_r 90]) (pc2 := 136) b_276_130_5 rfl rfl ?_
        refine ov_cV (as := [ov_i x, ov_i y, ov_i 0, ov_i sn]) (st := []) (d2 := d - 1) d_276_136 lk_Mo_315 rfl (Nat.le_of_ble_eq_true rfl) (c := 1) (zb_90 I) (zs_90 I) ⟨by decide, rfl⟩ (by omega) (c_Mo_waitFor_90 (d - 1) (by omega) U I x y 0 sn (by omega) (by omega) (by omega) (by omega) (by omega) (by omega) (by omega) (by show (((h 96 (10 + 4 * (6 * y + x))) = 1 ∨ (h 96 (10 + 4 * (6 * y + x))) = 2) → ((0 : Int) = 0 → 0 < (h 96 (10 + 4 * (6 * y + x) + 3))) ∧ (¬ (0 : Int) = 0 → (h 96 (10 + 4 * (6 * y + x) + 3)) < (h 96 (10 + 4 * (6 * y + x) + 1)))); omega) W) ?_
        rintro _ _ _ ⟨v22, rfl, rfl, rfl, f21⟩
        show ov_R u d ov_m276 139 [(0, ov_r 90), (1, ov_i x), (2, ov_i y), (3, ov_i t), (4, ov_i sn), (5, ov_i v2), (6, ov_i v5)] [ov_i v22] z h (P_Mo_wayOf_90 F z h go wt sf sm x y t sn)
        have f23 : 0 ≤ v22 ∧ v22 ≤ 59 ∧ v22 = ov_wm (h 96) (6 * y + x) (0 : Int) sn := f21
        clear f21
        refine ov_blk (ls2 := [(0, ov_r 90), (1, ov_i x), (2, ov_i y), (3, ov_i t), (4, ov_i sn), (5, ov_i v2), (6, ov_i v5), (7, ov_i v22)]) (st2 := [ov_i sn, ov_i 1, ov_i y, ov_i x, ov_r 90]) (pc2 := 147) b_276_139_6 rfl rfl ?_
        refine ov_cV (as := [ov_i x, ov_i y, ov_i 1, ov_i sn]) (st := []) (d2 := d - 1) d_276_147 lk_Mo_315 rfl (Nat.le_of_ble_eq_true rfl) (c := 1) (zb_90 I) (zs_90 I) ⟨by decide, rfl⟩ (by omega) (c_Mo_waitFor_90 (d - 1) (by omega) U I x y 1 sn (by omega) (by omega) (by omega) (by omega) (by omega) (by omega) (by omega) (by show (((h 96 (10 + 4 * (6 * y + x))) = 1 ∨ (h 96 (10 + 4 * (6 * y + x))) = 2) → ((1 : Int) = 0 → 0 < (h 96 (10 + 4 * (6 * y + x) + 3))) ∧ (¬ (1 : Int) = 0 → (h 96 (10 + 4 * (6 * y + x) + 3)) < (h 96 (10 + 4 * (6 * y + x) + 1)))); omega) W) ?_
        rintro _ _ _ ⟨v25, rfl, rfl, rfl, f24⟩
        show ov_R u d ov_m276 150 [(0, ov_r 90), (1, ov_i x), (2, ov_i y), (3, ov_i t), (4, ov_i sn), (5, ov_i v2), (6, ov_i v5), (7, ov_i v22)] [ov_i v25] z h (P_Mo_wayOf_90 F z h go wt sf sm x y t sn)
        have f26 : 0 ≤ v25 ∧ v25 ≤ 59 ∧ v25 = ov_wm (h 96) (6 * y + x) (1 : Int) sn := f24
        clear f24
        refine ov_blk (ls2 := [(0, ov_r 90), (1, ov_i x), (2, ov_i y), (3, ov_i t), (4, ov_i sn), (5, ov_i v2), (6, ov_i v5), (7, ov_i v22), (8, ov_i v25)]) (st2 := [ov_r 90]) (pc2 := 153) b_276_150_2 rfl rfl ?_
        refine ov_getf (v := ov_i (h 90 26)) d_276_153 fl_Mo_116 (zb_90 I) (zs_90 I) rfl ?_
        refine ov_blk (ls2 := [(0, ov_r 90), (1, ov_i x), (2, ov_i y), (3, ov_i t), (4, ov_i sn), (5, ov_i v2), (6, ov_i v5), (7, ov_i v22), (8, ov_i v25)]) (st2 := [ov_i 3, ov_i (h 90 26)]) (pc2 := 157) b_276_156_1 rfl rfl ?_
        refine ov_icge (tgt := 188) d_276_157 (by decide) (by omega) (by omega) (fun c28 => ?_) (fun c28 => ?_)
        · skip
          refine ov_blk (ls2 := [(0, ov_r 90), (1, ov_i x), (2, ov_i y), (3, ov_i t), (4, ov_i sn), (5, ov_i v2), (6, ov_i v5), (7, ov_i v22), (8, ov_i v25)]) (st2 := [ov_r 90]) (pc2 := 189) b_276_188_1 rfl rfl ?_
          refine ov_getf (v := ov_r 101) d_276_189 fl_Mo_96 (zb_90 I) (zs_90 I) (congrArg ov_r (rg_90_17 I)) ?_
          refine ov_blk (ls2 := [(0, ov_r 90), (1, ov_i x), (2, ov_i y), (3, ov_i t), (4, ov_i sn), (5, ov_i v2), (6, ov_i v5), (7, ov_i v22), (8, ov_i v25)]) (st2 := [ov_i v22, ov_i 0, ov_r 101]) (pc2 := 195) b_276_192_2 rfl rfl ?_
          refine ov_iast d_276_195 (zb_101 I) (zs_101 I) (by omega) ?_
          have I29 := ua_101 (k := 0) (x := v22) I (by omega)
          refine ov_blk (ls2 := [(0, ov_r 90), (1, ov_i x), (2, ov_i y), (3, ov_i t), (4, ov_i sn), (5, ov_i v2), (6, ov_i v5), (7, ov_i v22), (8, ov_i v25)]) (st2 := [ov_r 90]) (pc2 := 197) b_276_196_1 rfl rfl ?_
          refine ov_getf (v := ov_r 101) d_276_197 fl_Mo_96 (zb_90 I29) (zs_90 I29) (congrArg ov_r (rg_90_17 I29)) ?_
          refine ov_blk (ls2 := [(0, ov_r 90), (1, ov_i x), (2, ov_i y), (3, ov_i t), (4, ov_i sn), (5, ov_i v2), (6, ov_i v5), (7, ov_i v22), (8, ov_i v25)]) (st2 := [ov_i v25, ov_i 1, ov_r 101]) (pc2 := 203) b_276_200_2 rfl rfl ?_
          refine ov_iast d_276_203 (zb_101 I29) (zs_101 I29) (by omega) ?_
          have I30 := ua_101 (k := 1) (x := v25) I29 (by omega)
          refine ov_blk (ls2 := [(0, ov_r 90), (1, ov_i x), (2, ov_i y), (3, ov_i t), (4, ov_i sn), (5, ov_i v2), (6, ov_i v5), (7, ov_i v22), (8, ov_i v25)]) (st2 := [ov_r 90]) (pc2 := 205) b_276_204_1 rfl rfl ?_
          refine ov_getf (v := ov_r 101) d_276_205 fl_Mo_96 (zb_90 I30) (zs_90 I30) (congrArg ov_r (rg_90_17 I30)) ?_
          refine ov_blk (ls2 := [(0, ov_r 90), (1, ov_i x), (2, ov_i y), (3, ov_i t), (4, ov_i sn), (5, ov_i v2), (6, ov_i v5), (7, ov_i v22), (8, ov_i v25)]) (st2 := [ov_r 90, ov_i 2, ov_r 101]) (pc2 := 210) b_276_208_2 rfl rfl ?_
          refine ov_cV (as := []) (st := [ov_i 2, ov_r 101]) (d2 := d - 1) d_276_210 lk_Mo_275 rfl (Nat.le_of_ble_eq_true rfl) (c := 1) (zb_90 I30) (zs_90 I30) ⟨by decide, rfl⟩ (by omega) (c_Mo_wide_90 (d - 1) (by omega) U I30) ?_
          rintro _ _ _ ⟨v32, rfl, rfl, rfl, f31⟩
          show ov_R u d ov_m276 213 [(0, ov_r 90), (1, ov_i x), (2, ov_i y), (3, ov_i t), (4, ov_i sn), (5, ov_i v2), (6, ov_i v5), (7, ov_i v22), (8, ov_i v25)] [ov_i v32, ov_i 2, ov_r 101] z (ov_up (ov_up h 101 0 v22) 101 1 v25) (P_Mo_wayOf_90 F z h go wt sf sm x y t sn)
          have f33 : v32 = (h 96 0) ∧ 1 ≤ v32 ∧ v32 ≤ 6 := f31
          clear f31
          refine ov_blk (ls2 := [(0, ov_r 90), (1, ov_i x), (2, ov_i y), (3, ov_i t), (4, ov_i sn), (5, ov_i v2), (6, ov_i v5), (7, ov_i v22), (8, ov_i v25)]) (st2 := [ov_i ((v32 - 1) - x), ov_i 2, ov_r 101]) (pc2 := 217) b_276_213_4 rfl rfl ?_
          refine ov_iast d_276_217 (zb_101 I30) (zs_101 I30) (by omega) ?_
          have I34 := ua_101 (k := 2) (x := ((v32 - 1) - x)) I30 (by omega)
          refine ov_blk (ls2 := [(0, ov_r 90), (1, ov_i x), (2, ov_i y), (3, ov_i t), (4, ov_i sn), (5, ov_i v2), (6, ov_i v5), (7, ov_i v22), (8, ov_i v25)]) (st2 := [ov_r 90]) (pc2 := 219) b_276_218_1 rfl rfl ?_
          refine ov_getf (v := ov_r 101) d_276_219 fl_Mo_96 (zb_90 I34) (zs_90 I34) (congrArg ov_r (rg_90_17 I34)) ?_
          refine ov_blk (ls2 := [(0, ov_r 90), (1, ov_i x), (2, ov_i y), (3, ov_i t), (4, ov_i sn), (5, ov_i v2), (6, ov_i v5), (7, ov_i v22), (8, ov_i v25)]) (st2 := [ov_r 90, ov_i 3, ov_r 101]) (pc2 := 224) b_276_222_2 rfl rfl ?_
          refine ov_cV (as := []) (st := [ov_i 3, ov_r 101]) (d2 := d - 1) d_276_224 lk_Mo_279 rfl (Nat.le_of_ble_eq_true rfl) (c := 1) (zb_90 I34) (zs_90 I34) ⟨by decide, rfl⟩ (by omega) (c_Mo_deep_90 (d - 1) (by omega) U I34) ?_
          rintro _ _ _ ⟨v36, rfl, rfl, rfl, f35⟩
          show ov_R u d ov_m276 227 [(0, ov_r 90), (1, ov_i x), (2, ov_i y), (3, ov_i t), (4, ov_i sn), (5, ov_i v2), (6, ov_i v5), (7, ov_i v22), (8, ov_i v25)] [ov_i v36, ov_i 3, ov_r 101] z (ov_up (ov_up (ov_up h 101 0 v22) 101 1 v25) 101 2 ((v32 - 1) - x)) (P_Mo_wayOf_90 F z h go wt sf sm x y t sn)
          have f37 : v36 = (h 96 1) ∧ 1 ≤ v36 ∧ v36 ≤ 9 := f35
          clear f35
          refine ov_blk (ls2 := [(0, ov_r 90), (1, ov_i x), (2, ov_i y), (3, ov_i t), (4, ov_i sn), (5, ov_i v2), (6, ov_i v5), (7, ov_i v22), (8, ov_i v25)]) (st2 := [ov_i ((v36 - 1) - y), ov_i 3, ov_r 101]) (pc2 := 231) b_276_227_4 rfl rfl ?_
          refine ov_iast d_276_231 (zb_101 I34) (zs_101 I34) (by omega) ?_
          have I38 := ua_101 (k := 3) (x := ((v36 - 1) - y)) I34 (by omega)
          refine ov_blk (ls2 := [(0, ov_r 90), (1, ov_i x), (2, ov_i y), (3, ov_i t), (4, ov_i sn), (5, ov_i v2), (6, ov_i v5), (7, ov_i v22), (8, ov_i v25)]) (st2 := [ov_r 90, ov_r 90]) (pc2 := 234) b_276_232_2 rfl rfl ?_
          refine ov_getf (v := ov_r 96) d_276_234 fl_Mo_81 (zb_90 I38) (zs_90 I38) (congrArg ov_r (rg_90_10 I38)) ?_
          refine ov_blk (ls2 := [(0, ov_r 90), (1, ov_i x), (2, ov_i y), (3, ov_i t), (4, ov_i sn), (5, ov_i v2), (6, ov_i v5), (7, ov_i v22), (8, ov_i v25)]) (st2 := [ov_r 90, ov_i 280, ov_r 96, ov_r 90]) (pc2 := 241) b_276_237_2 rfl rfl ?_
          refine ov_getf (v := ov_i (h 90 26)) d_276_241 fl_Mo_116 (zb_90 I38) (zs_90 I38) rfl ?_
          refine ov_blk (ls2 := [(0, ov_r 90), (1, ov_i x), (2, ov_i y), (3, ov_i t), (4, ov_i sn), (5, ov_i v2), (6, ov_i v5), (7, ov_i v22), (8, ov_i v25)]) (st2 := [ov_i ((280 + (h 90 26)) - 4), ov_r 96, ov_r 90]) (pc2 := 247) b_276_244_3 rfl rfl ?_
          refine ov_iald d_276_247 (zb_96 I38) (zs_96 I38) (by omega) ?_
          show ov_R u d ov_m276 248 [(0, ov_r 90), (1, ov_i x), (2, ov_i y), (3, ov_i t), (4, ov_i sn), (5, ov_i v2), (6, ov_i v5), (7, ov_i v22), (8, ov_i v25)] [ov_i (h 96 ((280 + (h 90 26)) - 4)), ov_r 90] z (ov_up (ov_up (ov_up (ov_up h 101 0 v22) 101 1 v25) 101 2 ((v32 - 1) - x)) 101 3 ((v36 - 1) - y)) (P_Mo_wayOf_90 F z h go wt sf sm x y t sn)
          have g40 := g96 I ((280 + (h 90 26)) - 4)
          have cm := c96m I (k := 280 + (h 90 26) - 4) (by omega)
          have rn : ov_rn (h 97) (h 98) (h 96 ((280 + (h 90 26)) - 4)) 0 := by have q := CD (go - 4) (by omega) (by omega); rw [show 280 + (go - 4) = (280 + (h 90 26)) - 4 by omega] at q; exact q
          refine ov_cV (as := [ov_i (h 96 ((280 + (h 90 26)) - 4))]) (st := []) (d2 := d - 1) d_276_248 lk_Mo_380 rfl (Nat.le_of_ble_eq_true rfl) (c := 1) (zb_90 I38) (zs_90 I38) ⟨by decide, rfl⟩ (by omega) (c_Mo_worthAt_90 (d - 1) (by omega) U I38 (h 96 ((280 + (h 90 26)) - 4)) (by omega) (by omega) rn) ?_
          rintro _ z57 h58 ⟨v42, rfl, I59, f41, e43, e44, e45, e46, e47, e48, e49, e50, e51, e52, e53, e54, e55, e56⟩
          have E60 : h58 92 = h 92 := e43
          have E61 : h58 93 = h 93 := e44
          have E62 : h58 94 = h 94 := e45
          have E63 : h58 95 = h 95 := e46
          have E64 : h58 96 = h 96 := e47
          have E65 : h58 97 = h 97 := e48
          have E66 : h58 98 = h 98 := e49
          have E67 : h58 99 = h 99 := e50
          have E68 : h58 100 = h 100 := e51
          have E69 : h58 103 = h 103 := e52
          have E70 : h58 105 = h 105 := e53
          have E71 : h58 106 = h 106 := e54
          have E72 : h58 109 = h 109 := e55
          have E73 : h58 114 = h 114 := e56
          show ov_R u d ov_m276 251 [(0, ov_r 90), (1, ov_i x), (2, ov_i y), (3, ov_i t), (4, ov_i sn), (5, ov_i v2), (6, ov_i v5), (7, ov_i v22), (8, ov_i v25)] [ov_i v42] z57 h58 (P_Mo_wayOf_90 F z h go wt sf sm x y t sn)
          have f74 : (h58 90 2) = (h 90 2) ∧ (h58 90 7) = (h 90 7) ∧ (h58 90 8) = (h 90 8) ∧ (h58 90 13) = (h 90 13) ∧ (h58 90 20) = (h 90 20) ∧ (h58 90 22) = (h 90 22) ∧ (h58 90 25) = (h 90 25) ∧ (h58 90 26) = (h 90 26) ∧ (h58 90 28) = (h 90 28) ∧ (h58 90 29) = (h 90 29) ∧ (h58 90 30) = (h 90 30) ∧ (h58 90 34) = (h 90 34) ∧ v42 = ov_ev (h 97) (h 98) ((ov_up (ov_up (ov_up (ov_up h 101 0 v22) 101 1 v25) 101 2 ((v32 - 1) - x)) 101 3 ((v36 - 1) - y)) 101) 1101 (h 96 ((280 + (h 90 26)) - 4)) 0 (h 102) ∧ -2147483648 ≤ v42 ∧ v42 ≤ 2147483647 := f41
          clear f41
          have fe : v42 = ov_ev (h 97) (h 98) ((ov_up (ov_up (ov_up (ov_up h 101 0 v22) 101 1 v25) 101 2 ((v32 - 1) - x)) 101 3 ((v36 - 1) - y)) 101) 1101 (h 96 ((280 + (h 90 26)) - 4)) 0 (h 102) := by omega
          have er : v42 = ov_rw (h 97) (h 98) (ov_fa v22 v25 ((v32 - 1) - x) ((v36 - 1) - y)) (h 96 ((280 + (h 90 26)) - 4)) := fe.trans (ov_rw_of rn (fun j h1 h2 => ov_fa4 h1 h2))
          have er2 : v42 = ov_rw (h 97) (h 98) (ov_fa (ov_wm (h 96) (6 * y + x) 0 sn) (ov_wm (h 96) (6 * y + x) 1 sn) (h 96 0 - 1 - x) (h 96 1 - 1 - y)) (h 96 (280 + go - 4)) := by rw [er, show v22 = ov_wm (h 96) (6 * y + x) 0 sn by omega, show v25 = ov_wm (h 96) (6 * y + x) 1 sn by omega, show ((v32 - 1) - x) = h 96 0 - 1 - x by omega, show ((v36 - 1) - y) = h 96 1 - 1 - y by omega, show 280 + (h 90 26) - 4 = 280 + go - 4 by omega]
          refine ov_ifeq (tgt := 258) d_276_251 (by decide) (by omega) (fun c75 => ?_) (fun c75 => ?_)
          · skip
            refine ov_blk (ls2 := [(0, ov_r 90), (1, ov_i x), (2, ov_i y), (3, ov_i t), (4, ov_i sn), (5, ov_i v2), (6, ov_i v5), (7, ov_i v22), (8, ov_i v25)]) (st2 := [ov_i 1]) (pc2 := 259) b_276_258_1 rfl rfl ?_
            have ey : ov_wy (h 96) (h 97) (h 98) go x y sn = 1 := by unfold ov_wy; repeat (first | rw [if_pos (by omega)] | rw [if_neg (by omega)])
            exact ov_reti (st := []) d_276_259 rfl ⟨_, rfl, I59, (by show (h58 90 2) = (h 90 2) ∧ (h58 90 7) = (h 90 7) ∧ (h58 90 8) = (h 90 8) ∧ (h58 90 13) = (h 90 13) ∧ (h58 90 20) = (h 90 20) ∧ (h58 90 22) = (h 90 22) ∧ (h58 90 25) = (h 90 25) ∧ (h58 90 26) = (h 90 26) ∧ (h58 90 28) = (h 90 28) ∧ (h58 90 29) = (h 90 29) ∧ (h58 90 30) = (h 90 30) ∧ (h58 90 34) = (h 90 34) ∧ -1 ≤ 1 ∧ 1 ≤ 1; omega), E60, E61, E62, E63, E64, E65, E66, E67, E68, E69, E72, E73, (by show ov_MI (h 96) (h 103) (h 97) (h 98) go wt sf sm (h58 105) (h58 106); rw [show h58 105 = h 105 from E70, show h58 106 = h 106 from E71]; exact MI), (ov_wf_o (by omega) (by omega) ey)⟩
          · skip
            refine ov_blk (ls2 := [(0, ov_r 90), (1, ov_i x), (2, ov_i y), (3, ov_i t), (4, ov_i sn), (5, ov_i v2), (6, ov_i v5), (7, ov_i v22), (8, ov_i v25)]) (st2 := [ov_i 0]) (pc2 := 255) b_276_254_1 rfl rfl ?_
            refine ov_goto (tgt := 259) d_276_255 (by decide) ?_
            have ey : ov_wy (h 96) (h 97) (h 98) go x y sn = 0 := by unfold ov_wy; repeat (first | rw [if_pos (by omega)] | rw [if_neg (by omega)])
            exact ov_reti (st := []) d_276_259 rfl ⟨_, rfl, I59, (by show (h58 90 2) = (h 90 2) ∧ (h58 90 7) = (h 90 7) ∧ (h58 90 8) = (h 90 8) ∧ (h58 90 13) = (h 90 13) ∧ (h58 90 20) = (h 90 20) ∧ (h58 90 22) = (h 90 22) ∧ (h58 90 25) = (h 90 25) ∧ (h58 90 26) = (h 90 26) ∧ (h58 90 28) = (h 90 28) ∧ (h58 90 29) = (h 90 29) ∧ (h58 90 30) = (h 90 30) ∧ (h58 90 34) = (h 90 34) ∧ -1 ≤ 0 ∧ 0 ≤ 1; omega), E60, E61, E62, E63, E64, E65, E66, E67, E68, E69, E72, E73, (by show ov_MI (h 96) (h 103) (h 97) (h 98) go wt sf sm (h58 105) (h58 106); rw [show h58 105 = h 105 from E70, show h58 106 = h 106 from E71]; exact MI), (ov_wf_o (by omega) (by omega) ey)⟩
        · skip
          refine ov_blk (ls2 := [(0, ov_r 90), (1, ov_i x), (2, ov_i y), (3, ov_i t), (4, ov_i sn), (5, ov_i v2), (6, ov_i v5), (7, ov_i v22), (8, ov_i v25)]) (st2 := [ov_r 90]) (pc2 := 161) b_276_160_1 rfl rfl ?_
          refine ov_getf (v := ov_i (h 90 26)) d_276_161 fl_Mo_116 (zb_90 I) (zs_90 I) rfl ?_
          refine ov_blk (ls2 := [(0, ov_r 90), (1, ov_i x), (2, ov_i y), (3, ov_i t), (4, ov_i sn), (5, ov_i v2), (6, ov_i v5), (7, ov_i v22), (8, ov_i v25)]) (st2 := [ov_i 2, ov_i (h 90 26)]) (pc2 := 165) b_276_164_1 rfl rfl ?_
          refine ov_icge (tgt := 175) d_276_165 (by decide) (by omega) (by omega) (fun c77 => ?_) (fun c77 => ?_)
          · skip
            refine ov_blk (ls2 := [(0, ov_r 90), (1, ov_i x), (2, ov_i y), (3, ov_i t), (4, ov_i sn), (5, ov_i v2), (6, ov_i v5), (7, ov_i v22), (8, ov_i v25)]) (st2 := [ov_i v25, ov_i v22]) (pc2 := 179) b_276_175_2 rfl rfl ?_
            refine ov_icgt (tgt := 186) d_276_179 (by decide) (by omega) (by omega) (fun c78 => ?_) (fun c78 => ?_)
            · skip
              refine ov_blk (ls2 := [(0, ov_r 90), (1, ov_i x), (2, ov_i y), (3, ov_i t), (4, ov_i sn), (5, ov_i v2), (6, ov_i v5), (7, ov_i v22), (8, ov_i v25)]) (st2 := [ov_i 1]) (pc2 := 187) b_276_186_1 rfl rfl ?_
              have ey : ov_wy (h 96) (h 97) (h 98) go x y sn = 1 := by unfold ov_wy; repeat (first | rw [if_pos (by omega)] | rw [if_neg (by omega)])
              exact ov_reti (st := []) d_276_187 rfl ⟨_, rfl, I, ⟨rfl, rfl, rfl, rfl, rfl, rfl, rfl, rfl, rfl, rfl, rfl, rfl, (by show -1 ≤ 1 ∧ 1 ≤ 1; omega)⟩, rfl, rfl, rfl, rfl, rfl, rfl, rfl, rfl, rfl, rfl, rfl, rfl, MI, (ov_wf_o (by omega) (by omega) ey)⟩
            · skip
              refine ov_blk (ls2 := [(0, ov_r 90), (1, ov_i x), (2, ov_i y), (3, ov_i t), (4, ov_i sn), (5, ov_i v2), (6, ov_i v5), (7, ov_i v22), (8, ov_i v25)]) (st2 := [ov_i 0]) (pc2 := 183) b_276_182_1 rfl rfl ?_
              refine ov_goto (tgt := 187) d_276_183 (by decide) ?_
              have ey : ov_wy (h 96) (h 97) (h 98) go x y sn = 0 := by unfold ov_wy; repeat (first | rw [if_pos (by omega)] | rw [if_neg (by omega)])
              exact ov_reti (st := []) d_276_187 rfl ⟨_, rfl, I, ⟨rfl, rfl, rfl, rfl, rfl, rfl, rfl, rfl, rfl, rfl, rfl, rfl, (by show -1 ≤ 0 ∧ 0 ≤ 1; omega)⟩, rfl, rfl, rfl, rfl, rfl, rfl, rfl, rfl, rfl, rfl, rfl, rfl, MI, (ov_wf_o (by omega) (by omega) ey)⟩
          · skip
            refine ov_blk (ls2 := [(0, ov_r 90), (1, ov_i x), (2, ov_i y), (3, ov_i t), (4, ov_i sn), (5, ov_i v2), (6, ov_i v5), (7, ov_i v22), (8, ov_i v25)]) (st2 := [ov_r 90]) (pc2 := 169) b_276_168_1 rfl rfl ?_
            refine ov_getf (v := ov_i (h 90 26)) d_276_169 fl_Mo_116 (zb_90 I) (zs_90 I) rfl ?_
            refine ov_goto (tgt := 187) d_276_172 (by decide) ?_
            have ey : ov_wy (h 96) (h 97) (h 98) go x y sn = (h 90 26) := by unfold ov_wy; repeat (first | rw [if_pos (by omega)] | rw [if_neg (by omega)]); omega
            exact ov_reti (st := []) d_276_187 rfl ⟨_, rfl, I, ⟨rfl, rfl, rfl, rfl, rfl, rfl, rfl, rfl, rfl, rfl, rfl, rfl, (by show -1 ≤ (h 90 26) ∧ (h 90 26) ≤ 1; omega)⟩, rfl, rfl, rfl, rfl, rfl, rfl, rfl, rfl, rfl, rfl, rfl, rfl, MI, (ov_wf_o (by omega) (by omega) ey)⟩
      · skip
        have f6_ : v5 = 0 := by omega
        have f80 : v5 = ov_cgi (h 96) x y (1 : Int) := f6.2.1
        clear f6
        refine ov_blk (ls2 := [(0, ov_r 90), (1, ov_i x), (2, ov_i y), (3, ov_i t), (4, ov_i sn), (5, ov_i v2), (6, ov_i v5)]) (st2 := [ov_i v2]) (pc2 := 112) b_276_110_1 rfl rfl ?_
        refine ov_ifeq (tgt := 119) d_276_112 (by decide) (by omega) (fun c81 => ?_) (fun c81 => ?_)
        · omega
        · skip
          refine ov_blk (ls2 := [(0, ov_r 90), (1, ov_i x), (2, ov_i y), (3, ov_i t), (4, ov_i sn), (5, ov_i v2), (6, ov_i v5)]) (st2 := [ov_i 0]) (pc2 := 116) b_276_115_1 rfl rfl ?_
          refine ov_goto (tgt := 129) d_276_116 (by decide) ?_
          have ey : ov_wy (h 96) (h 97) (h 98) go x y sn = 0 := by unfold ov_wy; repeat (first | rw [if_pos (by omega)] | rw [if_neg (by omega)])
          exact ov_reti (st := []) d_276_129 rfl ⟨_, rfl, I, ⟨rfl, rfl, rfl, rfl, rfl, rfl, rfl, rfl, rfl, rfl, rfl, rfl, (by show -1 ≤ 0 ∧ 0 ≤ 1; omega)⟩, rfl, rfl, rfl, rfl, rfl, rfl, rfl, rfl, rfl, rfl, rfl, rfl, MI, (ov_wf_o (by omega) (by omega) ey)⟩
  · skip
    refine ov_blk (ls2 := [(0, ov_r 90), (1, ov_i x), (2, ov_i y), (3, ov_i t), (4, ov_i sn), (5, ov_i v2), (6, ov_i v5)]) (st2 := [ov_i v2]) (pc2 := 28) b_276_26_1 rfl rfl ?_
    refine ov_ifeq (tgt := 44) d_276_28 (by decide) (by omega) (fun c82 => ?_) (fun c82 => ?_)
    · skip
      have f3_ : v2 = 0 := by omega
      have f83 : v2 = ov_cgi (h 96) x y (0 : Int) := f3.2.1
      clear f3
      refine ov_blk (ls2 := [(0, ov_r 90), (1, ov_i x), (2, ov_i y), (3, ov_i t), (4, ov_i sn), (5, ov_i v2), (6, ov_i v5)]) (st2 := [ov_i (-1)]) (pc2 := 45) b_276_44_1 rfl rfl ?_
      refine ov_blk (ls2 := [(0, ov_r 90), (1, ov_i x), (2, ov_i y), (3, ov_i t), (4, ov_i sn), (5, ov_i v2), (6, ov_i v5), (7, ov_i (-1))]) (st2 := [ov_i v5]) (pc2 := 49) b_276_45_2 rfl rfl ?_
      refine ov_ifeq (tgt := 65) d_276_49 (by decide) (by omega) (fun c84 => ?_) (fun c84 => ?_)
      · skip
        have f6_ : v5 = 0 := by omega
        have f85 : v5 = ov_cgi (h 96) x y (1 : Int) := f6.2.1
        clear f6
        refine ov_blk (ls2 := [(0, ov_r 90), (1, ov_i x), (2, ov_i y), (3, ov_i t), (4, ov_i sn), (5, ov_i v2), (6, ov_i v5), (7, ov_i (-1))]) (st2 := [ov_i (-1)]) (pc2 := 66) b_276_65_1 rfl rfl ?_
        refine ov_blk (ls2 := [(0, ov_r 90), (1, ov_i x), (2, ov_i y), (3, ov_i t), (4, ov_i sn), (5, ov_i v2), (6, ov_i v5), (7, ov_i (-1)), (8, ov_i (-1))]) (st2 := [ov_i (-1)]) (pc2 := 70) b_276_66_2 rfl rfl ?_
        refine ov_iflt (tgt := 89) d_276_70 (by decide) (by omega) (fun c86 => ?_) (fun c86 => ?_)
        · skip
          refine ov_blk (ls2 := [(0, ov_r 90), (1, ov_i x), (2, ov_i y), (3, ov_i t), (4, ov_i sn), (5, ov_i v2), (6, ov_i v5), (7, ov_i (-1)), (8, ov_i (-1))]) (st2 := [ov_i (-1)]) (pc2 := 91) b_276_89_1 rfl rfl ?_
          refine ov_iflt (tgt := 98) d_276_91 (by decide) (by omega) (fun c87 => ?_) (fun c87 => ?_)
          · skip
            refine ov_blk (ls2 := [(0, ov_r 90), (1, ov_i x), (2, ov_i y), (3, ov_i t), (4, ov_i sn), (5, ov_i v2), (6, ov_i v5), (7, ov_i (-1)), (8, ov_i (-1))]) (st2 := [ov_i (-1)]) (pc2 := 99) b_276_98_1 rfl rfl ?_
            exact ov_reti (st := []) d_276_99 rfl ⟨_, rfl, I, ⟨rfl, rfl, rfl, rfl, rfl, rfl, rfl, rfl, rfl, rfl, rfl, rfl, (by show -1 ≤ (-1) ∧ (-1) ≤ 1; omega)⟩, rfl, rfl, rfl, rfl, rfl, rfl, rfl, rfl, rfl, rfl, rfl, rfl, MI, (ov_wf_3 (a := (-1)) (b := (-1)) (by omega) (iff_of_false (by decide) (fun q => absurd q.1 (by omega))) (iff_of_false (by decide) (fun q => absurd q.1 (by omega))) (by omega))⟩
          · omega
        · omega
      · skip
        have f6_ : v5 = 1 := by omega
        have f88 : v5 = ov_cgi (h 96) x y (1 : Int) := f6.2.1
        have f89 : (((1 : Int) = 0 → x < (h 96 0) - 1) ∧ (¬ (1 : Int) = 0 → y < (h 96 1) - 1)) ∧ (((h 96 (10 + 4 * (6 * y + x))) = 1 ∨ (h 96 (10 + 4 * (6 * y + x))) = 2) → ((1 : Int) = 0 → 0 < (h 96 (10 + 4 * (6 * y + x) + 3))) ∧ (¬ (1 : Int) = 0 → (h 96 (10 + 4 * (6 * y + x) + 3)) < (h 96 (10 + 4 * (6 * y + x) + 1)))) := f6.2.2 (by omega)
        clear f6
        refine ov_blk (ls2 := [(0, ov_r 90), (1, ov_i x), (2, ov_i y), (3, ov_i t), (4, ov_i sn), (5, ov_i v2), (6, ov_i v5), (7, ov_i (-1))]) (st2 := [ov_i sn, ov_i t, ov_i 1, ov_i y, ov_i x, ov_r 90]) (pc2 := 59) b_276_52_6 rfl rfl ?_
        refine ov_cV (as := [ov_i x, ov_i y, ov_i 1, ov_i t, ov_i sn]) (st := []) (d2 := d - 1) d_276_59 lk_Mo_374 rfl (Nat.le_of_ble_eq_true rfl) (c := 1) (zb_90 I) (zs_90 I) ⟨by decide, rfl⟩ (by omega) (c_Mo_worthBy_90 go wt sf sm k HV (d - 1) (by omega) U I x y 1 t sn (by omega) (by omega) (by omega) (by omega) (by omega) (by omega) (by show x < (h 96 0) ∧ y < (h 96 1); omega) (by omega) (by omega) (by show 0 ≤ t ∧ t < (h 96 9); omega) (by omega) (by show (((1 : Int) = 0 → x < (h 96 0) - 1) ∧ (¬ (1 : Int) = 0 → y < (h 96 1) - 1)) ∧ (((h 96 (10 + 4 * (6 * y + x))) = 1 ∨ (h 96 (10 + 4 * (6 * y + x))) = 2) → ((1 : Int) = 0 → 0 < (h 96 (10 + 4 * (6 * y + x) + 3))) ∧ (¬ (1 : Int) = 0 → (h 96 (10 + 4 * (6 * y + x) + 3)) < (h 96 (10 + 4 * (6 * y + x) + 1)))); omega) (by show (h 90 26) = go; omega) (by show (h 90 29) = wt; omega) (by show (h 90 30) = sf; omega) (by show (h 90 25) = sm; omega) (by show 0 ≤ go ∧ go ≤ 3 + (h 96 8); omega) W CD MI) ?_
        rintro _ z106 h107 ⟨v91, rfl, I108, f90, e92, e93, e94, e95, e96, e97, e98, e99, e100, e101, e102, e103, y104, y105⟩
        have E109 : h107 92 = h 92 := e92
        have E110 : h107 93 = h 93 := e93
        have E111 : h107 94 = h 94 := e94
        have E112 : h107 95 = h 95 := e95
        have E113 : h107 96 = h 96 := e96
        have E114 : h107 97 = h 97 := e97
        have E115 : h107 98 = h 98 := e98
        have E116 : h107 99 = h 99 := e99
        have E117 : h107 100 = h 100 := e100
        have E118 : h107 103 = h 103 := e101
        have E119 : h107 109 = h 109 := e102
        have E120 : h107 114 = h 114 := e103
        show ov_R u d ov_m276 62 [(0, ov_r 90), (1, ov_i x), (2, ov_i y), (3, ov_i t), (4, ov_i sn), (5, ov_i v2), (6, ov_i v5), (7, ov_i (-1))] [ov_i v91] z106 h107 (P_Mo_wayOf_90 F z h go wt sf sm x y t sn)
        have f121 : (h107 90 2) = (h 90 2) ∧ (h107 90 7) = (h 90 7) ∧ (h107 90 8) = (h 90 8) ∧ (h107 90 13) = (h 90 13) ∧ (h107 90 20) = (h 90 20) ∧ (h107 90 22) = (h 90 22) ∧ (h107 90 25) = (h 90 25) ∧ (h107 90 26) = (h 90 26) ∧ (h107 90 28) = (h 90 28) ∧ (h107 90 29) = (h 90 29) ∧ (h107 90 30) = (h 90 30) ∧ (h107 90 34) = (h 90 34) ∧ -1 ≤ v91 ∧ v91 ≤ 89000 * (13 - x - y) := f90
        clear f90
        have y104_ : ov_MI (h 96) (h 103) (h 97) (h 98) go wt sf sm (h107 105) (h107 106) := y104
        have y105_ : (0 ≤ v91 ↔ ov_go (h 96) (h 103) (h 97) (h 98) go wt sf (x + 1 - (1 : Int)) (y + (1 : Int)) (ov_nx (h 96) t (ov_wm (h 96) (6 * y + x) (1 : Int) sn))) := y105
        refine ov_goto (tgt := 66) d_276_62 (by decide) ?_
        refine ov_blk (ls2 := [(0, ov_r 90), (1, ov_i x), (2, ov_i y), (3, ov_i t), (4, ov_i sn), (5, ov_i v2), (6, ov_i v5), (7, ov_i (-1)), (8, ov_i v91)]) (st2 := [ov_i (-1)]) (pc2 := 70) b_276_66_2 rfl rfl ?_
        refine ov_iflt (tgt := 89) d_276_70 (by decide) (by omega) (fun c122 => ?_) (fun c122 => ?_)
        · skip
          refine ov_blk (ls2 := [(0, ov_r 90), (1, ov_i x), (2, ov_i y), (3, ov_i t), (4, ov_i sn), (5, ov_i v2), (6, ov_i v5), (7, ov_i (-1)), (8, ov_i v91)]) (st2 := [ov_i v91]) (pc2 := 91) b_276_89_1 rfl rfl ?_
          refine ov_iflt (tgt := 98) d_276_91 (by decide) (by omega) (fun c123 => ?_) (fun c123 => ?_)
          · skip
            refine ov_blk (ls2 := [(0, ov_r 90), (1, ov_i x), (2, ov_i y), (3, ov_i t), (4, ov_i sn), (5, ov_i v2), (6, ov_i v5), (7, ov_i (-1)), (8, ov_i v91)]) (st2 := [ov_i (-1)]) (pc2 := 99) b_276_98_1 rfl rfl ?_
            exact ov_reti (st := []) d_276_99 rfl ⟨_, rfl, I108, (by show (h107 90 2) = (h 90 2) ∧ (h107 90 7) = (h 90 7) ∧ (h107 90 8) = (h 90 8) ∧ (h107 90 13) = (h 90 13) ∧ (h107 90 20) = (h 90 20) ∧ (h107 90 22) = (h 90 22) ∧ (h107 90 25) = (h 90 25) ∧ (h107 90 26) = (h 90 26) ∧ (h107 90 28) = (h 90 28) ∧ (h107 90 29) = (h 90 29) ∧ (h107 90 30) = (h 90 30) ∧ (h107 90 34) = (h 90 34) ∧ -1 ≤ (-1) ∧ (-1) ≤ 1; omega), E109, E110, E111, E112, E113, E114, E115, E116, E117, E118, E119, E120, y104_, (ov_wf_3 (a := (-1)) (b := v91) (by omega) (iff_of_false (by decide) (fun q => absurd q.1 (by omega))) ⟨fun q => ⟨by omega, y105_.mp q⟩, fun q => y105_.mpr q.2⟩ (by omega))⟩
          · skip
            refine ov_blk (ls2 := [(0, ov_r 90), (1, ov_i x), (2, ov_i y), (3, ov_i t), (4, ov_i sn), (5, ov_i v2), (6, ov_i v5), (7, ov_i (-1)), (8, ov_i v91)]) (st2 := [ov_i 1]) (pc2 := 95) b_276_94_1 rfl rfl ?_
            refine ov_goto (tgt := 99) d_276_95 (by decide) ?_
            exact ov_reti (st := []) d_276_99 rfl ⟨_, rfl, I108, (by show (h107 90 2) = (h 90 2) ∧ (h107 90 7) = (h 90 7) ∧ (h107 90 8) = (h 90 8) ∧ (h107 90 13) = (h 90 13) ∧ (h107 90 20) = (h 90 20) ∧ (h107 90 22) = (h 90 22) ∧ (h107 90 25) = (h 90 25) ∧ (h107 90 26) = (h 90 26) ∧ (h107 90 28) = (h 90 28) ∧ (h107 90 29) = (h 90 29) ∧ (h107 90 30) = (h 90 30) ∧ (h107 90 34) = (h 90 34) ∧ -1 ≤ 1 ∧ 1 ≤ 1; omega), E109, E110, E111, E112, E113, E114, E115, E116, E117, E118, E119, E120, y104_, (ov_wf_3 (a := (-1)) (b := v91) (by omega) (iff_of_false (by decide) (fun q => absurd q.1 (by omega))) ⟨fun q => ⟨by omega, y105_.mp q⟩, fun q => y105_.mpr q.2⟩ (by omega))⟩
        · omega
    · skip
      have f3_ : v2 = 1 := by omega
      have f124 : v2 = ov_cgi (h 96) x y (0 : Int) := f3.2.1
      have f125 : (((0 : Int) = 0 → x < (h 96 0) - 1) ∧ (¬ (0 : Int) = 0 → y < (h 96 1) - 1)) ∧ (((h 96 (10 + 4 * (6 * y + x))) = 1 ∨ (h 96 (10 + 4 * (6 * y + x))) = 2) → ((0 : Int) = 0 → 0 < (h 96 (10 + 4 * (6 * y + x) + 3))) ∧ (¬ (0 : Int) = 0 → (h 96 (10 + 4 * (6 * y + x) + 3)) < (h 96 (10 + 4 * (6 * y + x) + 1)))) := f3.2.2 (by omega)
      clear f3
      refine ov_blk (ls2 := [(0, ov_r 90), (1, ov_i x), (2, ov_i y), (3, ov_i t), (4, ov_i sn), (5, ov_i v2), (6, ov_i v5)]) (st2 := [ov_i sn, ov_i t, ov_i 0, ov_i y, ov_i x, ov_r 90]) (pc2 := 38) b_276_31_6 rfl rfl ?_
      refine ov_cV (as := [ov_i x, ov_i y, ov_i 0, ov_i t, ov_i sn]) (st := []) (d2 := d - 1) d_276_38 lk_Mo_374 rfl (Nat.le_of_ble_eq_true rfl) (c := 1) (zb_90 I) (zs_90 I) ⟨by decide, rfl⟩ (by omega) (c_Mo_worthBy_90 go wt sf sm k HV (d - 1) (by omega) U I x y 0 t sn (by omega) (by omega) (by omega) (by omega) (by omega) (by omega) (by show x < (h 96 0) ∧ y < (h 96 1); omega) (by omega) (by omega) (by show 0 ≤ t ∧ t < (h 96 9); omega) (by omega) (by show (((0 : Int) = 0 → x < (h 96 0) - 1) ∧ (¬ (0 : Int) = 0 → y < (h 96 1) - 1)) ∧ (((h 96 (10 + 4 * (6 * y + x))) = 1 ∨ (h 96 (10 + 4 * (6 * y + x))) = 2) → ((0 : Int) = 0 → 0 < (h 96 (10 + 4 * (6 * y + x) + 3))) ∧ (¬ (0 : Int) = 0 → (h 96 (10 + 4 * (6 * y + x) + 3)) < (h 96 (10 + 4 * (6 * y + x) + 1)))); omega) (by show (h 90 26) = go; omega) (by show (h 90 29) = wt; omega) (by show (h 90 30) = sf; omega) (by show (h 90 25) = sm; omega) (by show 0 ≤ go ∧ go ≤ 3 + (h 96 8); omega) W CD MI) ?_
      rintro _ z142 h143 ⟨v127, rfl, I144, f126, e128, e129, e130, e131, e132, e133, e134, e135, e136, e137, e138, e139, y140, y141⟩
      have E145 : h143 92 = h 92 := e128
      have E146 : h143 93 = h 93 := e129
      have E147 : h143 94 = h 94 := e130
      have E148 : h143 95 = h 95 := e131
      have E149 : h143 96 = h 96 := e132
      have E150 : h143 97 = h 97 := e133
      have E151 : h143 98 = h 98 := e134
      have E152 : h143 99 = h 99 := e135
      have E153 : h143 100 = h 100 := e136
      have E154 : h143 103 = h 103 := e137
      have E155 : h143 109 = h 109 := e138
      have E156 : h143 114 = h 114 := e139
      show ov_R u d ov_m276 41 [(0, ov_r 90), (1, ov_i x), (2, ov_i y), (3, ov_i t), (4, ov_i sn), (5, ov_i v2), (6, ov_i v5)] [ov_i v127] z142 h143 (P_Mo_wayOf_90 F z h go wt sf sm x y t sn)
      have f157 : (h143 90 2) = (h 90 2) ∧ (h143 90 7) = (h 90 7) ∧ (h143 90 8) = (h 90 8) ∧ (h143 90 13) = (h 90 13) ∧ (h143 90 20) = (h 90 20) ∧ (h143 90 22) = (h 90 22) ∧ (h143 90 25) = (h 90 25) ∧ (h143 90 26) = (h 90 26) ∧ (h143 90 28) = (h 90 28) ∧ (h143 90 29) = (h 90 29) ∧ (h143 90 30) = (h 90 30) ∧ (h143 90 34) = (h 90 34) ∧ -1 ≤ v127 ∧ v127 ≤ 89000 * (13 - x - y) := f126
      clear f126
      have y140_ : ov_MI (h 96) (h 103) (h 97) (h 98) go wt sf sm (h143 105) (h143 106) := y140
      have y141_ : (0 ≤ v127 ↔ ov_go (h 96) (h 103) (h 97) (h 98) go wt sf (x + 1 - (0 : Int)) (y + (0 : Int)) (ov_nx (h 96) t (ov_wm (h 96) (6 * y + x) (0 : Int) sn))) := y141
      refine ov_goto (tgt := 45) d_276_41 (by decide) ?_
      refine ov_blk (ls2 := [(0, ov_r 90), (1, ov_i x), (2, ov_i y), (3, ov_i t), (4, ov_i sn), (5, ov_i v2), (6, ov_i v5), (7, ov_i v127)]) (st2 := [ov_i v5]) (pc2 := 49) b_276_45_2 rfl rfl ?_
      refine ov_ifeq (tgt := 65) d_276_49 (by decide) (by omega) (fun c158 => ?_) (fun c158 => ?_)
      · skip
        have f6_ : v5 = 0 := by omega
        have f159 : v5 = ov_cgi (h 96) x y (1 : Int) := f6.2.1
        clear f6
        refine ov_blk (ls2 := [(0, ov_r 90), (1, ov_i x), (2, ov_i y), (3, ov_i t), (4, ov_i sn), (5, ov_i v2), (6, ov_i v5), (7, ov_i v127)]) (st2 := [ov_i (-1)]) (pc2 := 66) b_276_65_1 rfl rfl ?_
        refine ov_blk (ls2 := [(0, ov_r 90), (1, ov_i x), (2, ov_i y), (3, ov_i t), (4, ov_i sn), (5, ov_i v2), (6, ov_i v5), (7, ov_i v127), (8, ov_i (-1))]) (st2 := [ov_i v127]) (pc2 := 70) b_276_66_2 rfl rfl ?_
        refine ov_iflt (tgt := 89) d_276_70 (by decide) (by omega) (fun c160 => ?_) (fun c160 => ?_)
        · skip
          refine ov_blk (ls2 := [(0, ov_r 90), (1, ov_i x), (2, ov_i y), (3, ov_i t), (4, ov_i sn), (5, ov_i v2), (6, ov_i v5), (7, ov_i v127), (8, ov_i (-1))]) (st2 := [ov_i (-1)]) (pc2 := 91) b_276_89_1 rfl rfl ?_
          refine ov_iflt (tgt := 98) d_276_91 (by decide) (by omega) (fun c161 => ?_) (fun c161 => ?_)
          · skip
            refine ov_blk (ls2 := [(0, ov_r 90), (1, ov_i x), (2, ov_i y), (3, ov_i t), (4, ov_i sn), (5, ov_i v2), (6, ov_i v5), (7, ov_i v127), (8, ov_i (-1))]) (st2 := [ov_i (-1)]) (pc2 := 99) b_276_98_1 rfl rfl ?_
            exact ov_reti (st := []) d_276_99 rfl ⟨_, rfl, I144, (by show (h143 90 2) = (h 90 2) ∧ (h143 90 7) = (h 90 7) ∧ (h143 90 8) = (h 90 8) ∧ (h143 90 13) = (h 90 13) ∧ (h143 90 20) = (h 90 20) ∧ (h143 90 22) = (h 90 22) ∧ (h143 90 25) = (h 90 25) ∧ (h143 90 26) = (h 90 26) ∧ (h143 90 28) = (h 90 28) ∧ (h143 90 29) = (h 90 29) ∧ (h143 90 30) = (h 90 30) ∧ (h143 90 34) = (h 90 34) ∧ -1 ≤ (-1) ∧ (-1) ≤ 1; omega), E145, E146, E147, E148, E149, E150, E151, E152, E153, E154, E155, E156, y140_, (ov_wf_3 (a := v127) (b := (-1)) (by omega) ⟨fun q => ⟨by omega, y141_.mp q⟩, fun q => y141_.mpr q.2⟩ (iff_of_false (by decide) (fun q => absurd q.1 (by omega))) (by omega))⟩
          · omega
        · skip
          refine ov_blk (ls2 := [(0, ov_r 90), (1, ov_i x), (2, ov_i y), (3, ov_i t), (4, ov_i sn), (5, ov_i v2), (6, ov_i v5), (7, ov_i v127), (8, ov_i (-1))]) (st2 := [ov_i (-1)]) (pc2 := 75) b_276_73_1 rfl rfl ?_
          refine ov_iflt (tgt := 85) d_276_75 (by decide) (by omega) (fun c162 => ?_) (fun c162 => ?_)
          · skip
            refine ov_blk (ls2 := [(0, ov_r 90), (1, ov_i x), (2, ov_i y), (3, ov_i t), (4, ov_i sn), (5, ov_i v2), (6, ov_i v5), (7, ov_i v127), (8, ov_i (-1))]) (st2 := [ov_i 0]) (pc2 := 86) b_276_85_1 rfl rfl ?_
            refine ov_goto (tgt := 99) d_276_86 (by decide) ?_
            exact ov_reti (st := []) d_276_99 rfl ⟨_, rfl, I144, (by show (h143 90 2) = (h 90 2) ∧ (h143 90 7) = (h 90 7) ∧ (h143 90 8) = (h 90 8) ∧ (h143 90 13) = (h 90 13) ∧ (h143 90 20) = (h 90 20) ∧ (h143 90 22) = (h 90 22) ∧ (h143 90 25) = (h 90 25) ∧ (h143 90 26) = (h 90 26) ∧ (h143 90 28) = (h 90 28) ∧ (h143 90 29) = (h 90 29) ∧ (h143 90 30) = (h 90 30) ∧ (h143 90 34) = (h 90 34) ∧ -1 ≤ 0 ∧ 0 ≤ 1; omega), E145, E146, E147, E148, E149, E150, E151, E152, E153, E154, E155, E156, y140_, (ov_wf_3 (a := v127) (b := (-1)) (by omega) ⟨fun q => ⟨by omega, y141_.mp q⟩, fun q => y141_.mpr q.2⟩ (iff_of_false (by decide) (fun q => absurd q.1 (by omega))) (by omega))⟩
          · omega
      · skip
        have f6_ : v5 = 1 := by omega
        have f163 : v5 = ov_cgi (h 96) x y (1 : Int) := f6.2.1
        have f164 : (((1 : Int) = 0 → x < (h 96 0) - 1) ∧ (¬ (1 : Int) = 0 → y < (h 96 1) - 1)) ∧ (((h 96 (10 + 4 * (6 * y + x))) = 1 ∨ (h 96 (10 + 4 * (6 * y + x))) = 2) → ((1 : Int) = 0 → 0 < (h 96 (10 + 4 * (6 * y + x) + 3))) ∧ (¬ (1 : Int) = 0 → (h 96 (10 + 4 * (6 * y + x) + 3)) < (h 96 (10 + 4 * (6 * y + x) + 1)))) := f6.2.2 (by omega)
        clear f6
        refine ov_blk (ls2 := [(0, ov_r 90), (1, ov_i x), (2, ov_i y), (3, ov_i t), (4, ov_i sn), (5, ov_i v2), (6, ov_i v5), (7, ov_i v127)]) (st2 := [ov_i sn, ov_i t, ov_i 1, ov_i y, ov_i x, ov_r 90]) (pc2 := 59) b_276_52_6 rfl rfl ?_
        have cf165 : h143 96 (0) = h 96 (0) := congrFun E149 (0)
        have cf166 : h143 96 (1) = h 96 (1) := congrFun E149 (1)
        have cf167 : h143 96 (9) = h 96 (9) := congrFun E149 (9)
        have cf168 : h143 96 (10 + 4 * (6 * y + x)) = h 96 (10 + 4 * (6 * y + x)) := congrFun E149 (10 + 4 * (6 * y + x))
        have cf169 : h143 96 (10 + 4 * (6 * y + x) + 3) = h 96 (10 + 4 * (6 * y + x) + 3) := congrFun E149 (10 + 4 * (6 * y + x) + 3)
        have cf170 : h143 96 (10 + 4 * (6 * y + x) + 1) = h 96 (10 + 4 * (6 * y + x) + 1) := congrFun E149 (10 + 4 * (6 * y + x) + 1)
        have cf171 : h143 96 (8) = h 96 (8) := congrFun E149 (8)
        refine ov_cV (as := [ov_i x, ov_i y, ov_i 1, ov_i t, ov_i sn]) (st := []) (d2 := d - 1) d_276_59 lk_Mo_374 rfl (Nat.le_of_ble_eq_true rfl) (c := 1) (zb_90 I144) (zs_90 I144) ⟨by decide, rfl⟩ (by omega) (c_Mo_worthBy_90 go wt sf sm k HV (d - 1) (by omega) U I144 x y 1 t sn (by omega) (by omega) (by omega) (by omega) (by omega) (by omega) (by show x < (h143 96 0) ∧ y < (h143 96 1); omega) (by omega) (by omega) (by show 0 ≤ t ∧ t < (h143 96 9); omega) (by omega) (by show (((1 : Int) = 0 → x < (h143 96 0) - 1) ∧ (¬ (1 : Int) = 0 → y < (h143 96 1) - 1)) ∧ (((h143 96 (10 + 4 * (6 * y + x))) = 1 ∨ (h143 96 (10 + 4 * (6 * y + x))) = 2) → ((1 : Int) = 0 → 0 < (h143 96 (10 + 4 * (6 * y + x) + 3))) ∧ (¬ (1 : Int) = 0 → (h143 96 (10 + 4 * (6 * y + x) + 3)) < (h143 96 (10 + 4 * (6 * y + x) + 1)))); omega) (by show (h143 90 26) = go; omega) (by show (h143 90 29) = wt; omega) (by show (h143 90 30) = sf; omega) (by show (h143 90 25) = sm; omega) (by show 0 ≤ go ∧ go ≤ 3 + (h143 96 8); omega) (by rw [show h143 96 = h 96 from E149]; exact W) (by rw [show h143 96 = h 96 from E149, show h143 97 = h 97 from E150, show h143 98 = h 98 from E151]; exact CD) (by rw [show h143 96 = h 96 from E149, show h143 103 = h 103 from E154, show h143 97 = h 97 from E150, show h143 98 = h 98 from E151]; exact y140_)) ?_
        rintro _ z188 h189 ⟨v173, rfl, I190, f172, e174, e175, e176, e177, e178, e179, e180, e181, e182, e183, e184, e185, y186, y187⟩
        have E191 : h189 92 = h 92 := Eq.trans e174 E145
        have E192 : h189 93 = h 93 := Eq.trans e175 E146
        have E193 : h189 94 = h 94 := Eq.trans e176 E147
        have E194 : h189 95 = h 95 := Eq.trans e177 E148
        have E195 : h189 96 = h 96 := Eq.trans e178 E149
        have E196 : h189 97 = h 97 := Eq.trans e179 E150
        have E197 : h189 98 = h 98 := Eq.trans e180 E151
        have E198 : h189 99 = h 99 := Eq.trans e181 E152
        have E199 : h189 100 = h 100 := Eq.trans e182 E153
        have E200 : h189 103 = h 103 := Eq.trans e183 E154
        have E201 : h189 109 = h 109 := Eq.trans e184 E155
        have E202 : h189 114 = h 114 := Eq.trans e185 E156
        show ov_R u d ov_m276 62 [(0, ov_r 90), (1, ov_i x), (2, ov_i y), (3, ov_i t), (4, ov_i sn), (5, ov_i v2), (6, ov_i v5), (7, ov_i v127)] [ov_i v173] z188 h189 (P_Mo_wayOf_90 F z h go wt sf sm x y t sn)
        have f203 : (h189 90 2) = (h143 90 2) ∧ (h189 90 7) = (h143 90 7) ∧ (h189 90 8) = (h143 90 8) ∧ (h189 90 13) = (h143 90 13) ∧ (h189 90 20) = (h143 90 20) ∧ (h189 90 22) = (h143 90 22) ∧ (h189 90 25) = (h143 90 25) ∧ (h189 90 26) = (h143 90 26) ∧ (h189 90 28) = (h143 90 28) ∧ (h189 90 29) = (h143 90 29) ∧ (h189 90 30) = (h143 90 30) ∧ (h189 90 34) = (h143 90 34) ∧ -1 ≤ v173 ∧ v173 ≤ 89000 * (13 - x - y) := f172
        clear f172
        rw [show h143 103 = h 103 from E154] at y186
        rw [show h143 96 = h 96 from E149] at y186
        rw [show h143 97 = h 97 from E150] at y186
        rw [show h143 98 = h 98 from E151] at y186
        have y186_ : ov_MI (h 96) (h 103) (h 97) (h 98) go wt sf sm (h189 105) (h189 106) := y186
        rw [show h143 103 = h 103 from E154] at y187
        rw [show h143 96 = h 96 from E149] at y187
        rw [show h143 97 = h 97 from E150] at y187
        rw [show h143 98 = h 98 from E151] at y187
        have y187_ : (0 ≤ v173 ↔ ov_go (h 96) (h 103) (h 97) (h 98) go wt sf (x + 1 - (1 : Int)) (y + (1 : Int)) (ov_nx (h 96) t (ov_wm (h 96) (6 * y + x) (1 : Int) sn))) := y187
        refine ov_goto (tgt := 66) d_276_62 (by decide) ?_
        refine ov_blk (ls2 := [(0, ov_r 90), (1, ov_i x), (2, ov_i y), (3, ov_i t), (4, ov_i sn), (5, ov_i v2), (6, ov_i v5), (7, ov_i v127), (8, ov_i v173)]) (st2 := [ov_i v127]) (pc2 := 70) b_276_66_2 rfl rfl ?_
        refine ov_iflt (tgt := 89) d_276_70 (by decide) (by omega) (fun c204 => ?_) (fun c204 => ?_)
        · skip
          refine ov_blk (ls2 := [(0, ov_r 90), (1, ov_i x), (2, ov_i y), (3, ov_i t), (4, ov_i sn), (5, ov_i v2), (6, ov_i v5), (7, ov_i v127), (8, ov_i v173)]) (st2 := [ov_i v173]) (pc2 := 91) b_276_89_1 rfl rfl ?_
          refine ov_iflt (tgt := 98) d_276_91 (by decide) (by omega) (fun c205 => ?_) (fun c205 => ?_)
          · skip
            refine ov_blk (ls2 := [(0, ov_r 90), (1, ov_i x), (2, ov_i y), (3, ov_i t), (4, ov_i sn), (5, ov_i v2), (6, ov_i v5), (7, ov_i v127), (8, ov_i v173)]) (st2 := [ov_i (-1)]) (pc2 := 99) b_276_98_1 rfl rfl ?_
            exact ov_reti (st := []) d_276_99 rfl ⟨_, rfl, I190, (by show (h189 90 2) = (h 90 2) ∧ (h189 90 7) = (h 90 7) ∧ (h189 90 8) = (h 90 8) ∧ (h189 90 13) = (h 90 13) ∧ (h189 90 20) = (h 90 20) ∧ (h189 90 22) = (h 90 22) ∧ (h189 90 25) = (h 90 25) ∧ (h189 90 26) = (h 90 26) ∧ (h189 90 28) = (h 90 28) ∧ (h189 90 29) = (h 90 29) ∧ (h189 90 30) = (h 90 30) ∧ (h189 90 34) = (h 90 34) ∧ -1 ≤ (-1) ∧ (-1) ≤ 1; omega), E191, E192, E193, E194, E195, E196, E197, E198, E199, E200, E201, E202, y186_, (ov_wf_3 (a := v127) (b := v173) (by omega) ⟨fun q => ⟨by omega, y141_.mp q⟩, fun q => y141_.mpr q.2⟩ ⟨fun q => ⟨by omega, y187_.mp q⟩, fun q => y187_.mpr q.2⟩ (by omega))⟩
          · skip
            refine ov_blk (ls2 := [(0, ov_r 90), (1, ov_i x), (2, ov_i y), (3, ov_i t), (4, ov_i sn), (5, ov_i v2), (6, ov_i v5), (7, ov_i v127), (8, ov_i v173)]) (st2 := [ov_i 1]) (pc2 := 95) b_276_94_1 rfl rfl ?_
            refine ov_goto (tgt := 99) d_276_95 (by decide) ?_
            exact ov_reti (st := []) d_276_99 rfl ⟨_, rfl, I190, (by show (h189 90 2) = (h 90 2) ∧ (h189 90 7) = (h 90 7) ∧ (h189 90 8) = (h 90 8) ∧ (h189 90 13) = (h 90 13) ∧ (h189 90 20) = (h 90 20) ∧ (h189 90 22) = (h 90 22) ∧ (h189 90 25) = (h 90 25) ∧ (h189 90 26) = (h 90 26) ∧ (h189 90 28) = (h 90 28) ∧ (h189 90 29) = (h 90 29) ∧ (h189 90 30) = (h 90 30) ∧ (h189 90 34) = (h 90 34) ∧ -1 ≤ 1 ∧ 1 ≤ 1; omega), E191, E192, E193, E194, E195, E196, E197, E198, E199, E200, E201, E202, y186_, (ov_wf_3 (a := v127) (b := v173) (by omega) ⟨fun q => ⟨by omega, y141_.mp q⟩, fun q => y141_.mpr q.2⟩ ⟨fun q => ⟨by omega, y187_.mp q⟩, fun q => y187_.mpr q.2⟩ (by omega))⟩
        · skip
          refine ov_blk (ls2 := [(0, ov_r 90), (1, ov_i x), (2, ov_i y), (3, ov_i t), (4, ov_i sn), (5, ov_i v2), (6, ov_i v5), (7, ov_i v127), (8, ov_i v173)]) (st2 := [ov_i v173]) (pc2 := 75) b_276_73_1 rfl rfl ?_
          refine ov_iflt (tgt := 85) d_276_75 (by decide) (by omega) (fun c206 => ?_) (fun c206 => ?_)
          · skip
            refine ov_blk (ls2 := [(0, ov_r 90), (1, ov_i x), (2, ov_i y), (3, ov_i t), (4, ov_i sn), (5, ov_i v2), (6, ov_i v5), (7, ov_i v127), (8, ov_i v173)]) (st2 := [ov_i 0]) (pc2 := 86) b_276_85_1 rfl rfl ?_
            refine ov_goto (tgt := 99) d_276_86 (by decide) ?_
            exact ov_reti (st := []) d_276_99 rfl ⟨_, rfl, I190, (by show (h189 90 2) = (h 90 2) ∧ (h189 90 7) = (h 90 7) ∧ (h189 90 8) = (h 90 8) ∧ (h189 90 13) = (h 90 13) ∧ (h189 90 20) = (h 90 20) ∧ (h189 90 22) = (h 90 22) ∧ (h189 90 25) = (h 90 25) ∧ (h189 90 26) = (h 90 26) ∧ (h189 90 28) = (h 90 28) ∧ (h189 90 29) = (h 90 29) ∧ (h189 90 30) = (h 90 30) ∧ (h189 90 34) = (h 90 34) ∧ -1 ≤ 0 ∧ 0 ≤ 1; omega), E191, E192, E193, E194, E195, E196, E197, E198, E199, E200, E201, E202, y186_, (ov_wf_3 (a := v127) (b := v173) (by omega) ⟨fun q => ⟨by omega, y141_.mp q⟩, fun q => y141_.mpr q.2⟩ ⟨fun q => ⟨by omega, y187_.mp q⟩, fun q => y187_.mpr q.2⟩ (by omega))⟩
          · skip
            refine ov_blk (ls2 := [(0, ov_r 90), (1, ov_i x), (2, ov_i y), (3, ov_i t), (4, ov_i sn), (5, ov_i v2), (6, ov_i v5), (7, ov_i v127), (8, ov_i v173)]) (st2 := [ov_i v173, ov_i v127]) (pc2 := 82) b_276_78_2 rfl rfl ?_
            refine ov_icgt (tgt := 89) d_276_82 (by decide) (by omega) (by omega) (fun c207 => ?_) (fun c207 => ?_)
            · skip
              refine ov_blk (ls2 := [(0, ov_r 90), (1, ov_i x), (2, ov_i y), (3, ov_i t), (4, ov_i sn), (5, ov_i v2), (6, ov_i v5), (7, ov_i v127), (8, ov_i v173)]) (st2 := [ov_i v173]) (pc2 := 91) b_276_89_1 rfl rfl ?_
              refine ov_iflt (tgt := 98) d_276_91 (by decide) (by omega) (fun c208 => ?_) (fun c208 => ?_)
              · omega
              · skip
                refine ov_blk (ls2 := [(0, ov_r 90), (1, ov_i x), (2, ov_i y), (3, ov_i t), (4, ov_i sn), (5, ov_i v2), (6, ov_i v5), (7, ov_i v127), (8, ov_i v173)]) (st2 := [ov_i 1]) (pc2 := 95) b_276_94_1 rfl rfl ?_
                refine ov_goto (tgt := 99) d_276_95 (by decide) ?_
                exact ov_reti (st := []) d_276_99 rfl ⟨_, rfl, I190, (by show (h189 90 2) = (h 90 2) ∧ (h189 90 7) = (h 90 7) ∧ (h189 90 8) = (h 90 8) ∧ (h189 90 13) = (h 90 13) ∧ (h189 90 20) = (h 90 20) ∧ (h189 90 22) = (h 90 22) ∧ (h189 90 25) = (h 90 25) ∧ (h189 90 26) = (h 90 26) ∧ (h189 90 28) = (h 90 28) ∧ (h189 90 29) = (h 90 29) ∧ (h189 90 30) = (h 90 30) ∧ (h189 90 34) = (h 90 34) ∧ -1 ≤ 1 ∧ 1 ≤ 1; omega), E191, E192, E193, E194, E195, E196, E197, E198, E199, E200, E201, E202, y186_, (ov_wf_3 (a := v127) (b := v173) (by omega) ⟨fun q => ⟨by omega, y141_.mp q⟩, fun q => y141_.mpr q.2⟩ ⟨fun q => ⟨by omega, y187_.mp q⟩, fun q => y187_.mpr q.2⟩ (by omega))⟩
            · skip
              refine ov_blk (ls2 := [(0, ov_r 90), (1, ov_i x), (2, ov_i y), (3, ov_i t), (4, ov_i sn), (5, ov_i v2), (6, ov_i v5), (7, ov_i v127), (8, ov_i v173)]) (st2 := [ov_i 0]) (pc2 := 86) b_276_85_1 rfl rfl ?_
              refine ov_goto (tgt := 99) d_276_86 (by decide) ?_
              exact ov_reti (st := []) d_276_99 rfl ⟨_, rfl, I190, (by show (h189 90 2) = (h 90 2) ∧ (h189 90 7) = (h 90 7) ∧ (h189 90 8) = (h 90 8) ∧ (h189 90 13) = (h 90 13) ∧ (h189 90 20) = (h 90 20) ∧ (h189 90 22) = (h 90 22) ∧ (h189 90 25) = (h 90 25) ∧ (h189 90 26) = (h 90 26) ∧ (h189 90 28) = (h 90 28) ∧ (h189 90 29) = (h 90 29) ∧ (h189 90 30) = (h 90 30) ∧ (h189 90 34) = (h 90 34) ∧ -1 ≤ 0 ∧ 0 ≤ 1; omega), E191, E192, E193, E194, E195, E196, E197, E198, E199, E200, E201, E202, y186_, (ov_wf_3 (a := v127) (b := v173) (by omega) ⟨fun q => ⟨by omega, y141_.mp q⟩, fun q => y141_.mpr q.2⟩ ⟨fun q => ⟨by omega, y187_.mp q⟩, fun q => y187_.mpr q.2⟩ (by omega))⟩
set_option maxHeartbeats 4000000 in
theorem c_Mo_worthSeen_90 {u : ov_U} {F : ov_H × ov_Z} (go : Int) (wt : Int) (sf : Int) (sm : Int) (k : Nat) (HV : ∀ k' : Nat, k' < k → ∀ {z : ov_Z} {h : ov_H} (d : Nat) (hd : (10 + 5 * k' + 4) ≤ d) (U : ov_cap u) (I : ov_N F z h) (x : Int) (y : Int) (s : Int) (g_x : ov_g x) (g_y : ov_g y) (g_s : ov_g s) (p0 : 0 ≤ x ∧ x ≤ 5 ∧ 0 ≤ y ∧ y ≤ 8) (p1 : x < (h 96 0) ∧ y < (h 96 1)) (p2 : x + y + (k' : Int) = 13) (p3 : 0 ≤ s ∧ s ≤ 2000000) (p4 : (h 90 26) = go) (p5 : (h 90 29) = wt) (p6 : (h 90 30) = sf) (p7 : (h 90 25) = sm) (p8 : 0 ≤ go ∧ go ≤ 3 + (h 96 8)) (W : ov_WT (h 96)) (CD : ov_CD (h 96) (h 97) (h 98)) (MI : ov_MI (h 96) (h 103) (h 97) (h 98) go wt sf sm (h 105) (h 106)), ov_T u d ov_m272 [ov_r 90, ov_i x, ov_i y, ov_i s] z h (P_Mo_worthFrom_90 F z h go wt sf sm x y s)) {z : ov_Z} {h : ov_H} (d : Nat) (hd : (10 + 5 * k + 2) ≤ d) (U : ov_cap u) (I : ov_N F z h) (x : Int) (y : Int) (t : Int) (sn : Int) (g_x : ov_g x) (g_y : ov_g y) (g_t : ov_g t) (g_sn : ov_g sn) (p0 : 0 ≤ x ∧ x ≤ 5 ∧ 0 ≤ y ∧ y ≤ 8) (p1 : x < (h 96 0) ∧ y < (h 96 1)) (p2 : x + y + (k : Int) = 13) (p3 : 0 ≤ t ∧ t < (h 96 9)) (p4 : 0 ≤ sn ∧ sn ≤ 3000) (p5 : (h 90 26) = go) (p6 : (h 90 29) = wt) (p7 : (h 90 30) = sf) (p8 : (h 90 25) = sm) (p9 : 0 ≤ go ∧ go ≤ 3 + (h 96 8)) (W : ov_WT (h 96)) (CD : ov_CD (h 96) (h 97) (h 98)) (MI : ov_MI (h 96) (h 103) (h 97) (h 98) go wt sf sm (h 105) (h 106)) : ov_T u d ov_m275 [ov_r 90, ov_i x, ov_i y, ov_i t, ov_i sn] z h (P_Mo_worthSeen_90 F z h go wt sf sm x y t sn) := by
  refine ov_en rfl (Nat.le_of_ble_eq_true rfl) ?_
  show ov_R u d ov_m275 0 [(0, ov_r 90), (1, ov_i x), (2, ov_i y), (3, ov_i t), (4, ov_i sn)] [] z h (P_Mo_worthSeen_90 F z h go wt sf sm x y t sn)
  have t0 := t96_0 I
  have t1 := t96_1 I
  have t9 := t96_9 I
  refine ov_blk (ls2 := [(0, ov_r 90), (1, ov_i x), (2, ov_i y), (3, ov_i t), (4, ov_i sn)]) (st2 := [ov_i sn, ov_i t, ov_i y, ov_i x, ov_r 90]) (pc2 := 6) b_275_0_5 rfl rfl ?_
  refine ov_cV (as := [ov_i x, ov_i y, ov_i t, ov_i sn]) (st := []) (d2 := d - 1) d_275_6 lk_Mo_371 rfl (Nat.le_of_ble_eq_true rfl) (c := 1) (zb_90 I) (zs_90 I) ⟨by decide, rfl⟩ (by omega) (c_Mo_wayOf_90 go wt sf sm k HV (d - 1) (by omega) U I x y t sn (by omega) (by omega) (by omega) (by omega) (by omega) (by show x < (h 96 0) ∧ y < (h 96 1); omega) (by omega) (by show 0 ≤ t ∧ t < (h 96 9); omega) (by omega) (by show (h 90 26) = go; omega) (by show (h 90 29) = wt; omega) (by show (h 90 30) = sf; omega) (by show (h 90 25) = sm; omega) (by show 0 ≤ go ∧ go ≤ 3 + (h 96 8); omega) W CD MI) ?_
  rintro _ z17 h18 ⟨v2, rfl, I19, f1, e3, e4, e5, e6, e7, e8, e9, e10, e11, e12, e13, e14, y15, y16⟩
  have E20 : h18 92 = h 92 := e3
  have E21 : h18 93 = h 93 := e4
  have E22 : h18 94 = h 94 := e5
  have E23 : h18 95 = h 95 := e6
  have E24 : h18 96 = h 96 := e7
  have E25 : h18 97 = h 97 := e8
  have E26 : h18 98 = h 98 := e9
  have E27 : h18 99 = h 99 := e10
  have E28 : h18 100 = h 100 := e11
  have E29 : h18 103 = h 103 := e12
  have E30 : h18 109 = h 109 := e13
  have E31 : h18 114 = h 114 := e14
  show ov_R u d ov_m275 9 [(0, ov_r 90), (1, ov_i x), (2, ov_i y), (3, ov_i t), (4, ov_i sn)] [ov_i v2] z17 h18 (P_Mo_worthSeen_90 F z h go wt sf sm x y t sn)
  have f32 : (h18 90 2) = (h 90 2) ∧ (h18 90 7) = (h 90 7) ∧ (h18 90 8) = (h 90 8) ∧ (h18 90 13) = (h 90 13) ∧ (h18 90 20) = (h 90 20) ∧ (h18 90 22) = (h 90 22) ∧ (h18 90 25) = (h 90 25) ∧ (h18 90 26) = (h 90 26) ∧ (h18 90 28) = (h 90 28) ∧ (h18 90 29) = (h 90 29) ∧ (h18 90 30) = (h 90 30) ∧ (h18 90 34) = (h 90 34) ∧ -1 ≤ v2 ∧ v2 ≤ 1 := f1
  clear f1
  have y15_ : ov_MI (h 96) (h 103) (h 97) (h 98) go wt sf sm (h18 105) (h18 106) := y15
  have y16_ : ov_wf (h 96) (h 97) (h 98) (ov_go (h 96) (h 103) (h 97) (h 98) go wt sf) go x y t sn v2 := y16
  refine ov_blk (ls2 := [(0, ov_r 90), (1, ov_i x), (2, ov_i y), (3, ov_i t), (4, ov_i sn), (5, ov_i v2)]) (st2 := [ov_i v2]) (pc2 := 13) b_275_9_2 rfl rfl ?_
  refine ov_ifge (tgt := 20) d_275_13 (by decide) (by omega) (fun c33 => ?_) (fun c33 => ?_)
  · skip
    have cg := (ov_cgi_sp (h 96) x y v2).2 (y16_.1 (by omega))
    refine ov_blk (ls2 := [(0, ov_r 90), (1, ov_i x), (2, ov_i y), (3, ov_i t), (4, ov_i sn), (5, ov_i v2)]) (st2 := [ov_i sn, ov_i t, ov_i v2, ov_i y, ov_i x, ov_r 90]) (pc2 := 28) b_275_20_6 rfl rfl ?_
    have cf34 : h18 96 (0) = h 96 (0) := congrFun E24 (0)
    have cf35 : h18 96 (1) = h 96 (1) := congrFun E24 (1)
    have cf36 : h18 96 (9) = h 96 (9) := congrFun E24 (9)
    have cf37 : h18 96 (10 + 4 * (6 * y + x)) = h 96 (10 + 4 * (6 * y + x)) := congrFun E24 (10 + 4 * (6 * y + x))
    have cf38 : h18 96 (10 + 4 * (6 * y + x) + 3) = h 96 (10 + 4 * (6 * y + x) + 3) := congrFun E24 (10 + 4 * (6 * y + x) + 3)
    have cf39 : h18 96 (10 + 4 * (6 * y + x) + 1) = h 96 (10 + 4 * (6 * y + x) + 1) := congrFun E24 (10 + 4 * (6 * y + x) + 1)
    have cf40 : h18 96 (8) = h 96 (8) := congrFun E24 (8)
    refine ov_cV (as := [ov_i x, ov_i y, ov_i v2, ov_i t, ov_i sn]) (st := []) (d2 := d - 1) d_275_28 lk_Mo_374 rfl (Nat.le_of_ble_eq_true rfl) (c := 1) (zb_90 I19) (zs_90 I19) ⟨by decide, rfl⟩ (by omega) (c_Mo_worthBy_90 go wt sf sm k HV (d - 1) (by omega) U I19 x y v2 t sn (by omega) (by omega) (by omega) (by omega) (by omega) (by omega) (by show x < (h18 96 0) ∧ y < (h18 96 1); omega) (by omega) (by omega) (by show 0 ≤ t ∧ t < (h18 96 9); omega) (by omega) (by show ((v2 = 0 → x < (h18 96 0) - 1) ∧ (¬ v2 = 0 → y < (h18 96 1) - 1)) ∧ (((h18 96 (10 + 4 * (6 * y + x))) = 1 ∨ (h18 96 (10 + 4 * (6 * y + x))) = 2) → (v2 = 0 → 0 < (h18 96 (10 + 4 * (6 * y + x) + 3))) ∧ (¬ v2 = 0 → (h18 96 (10 + 4 * (6 * y + x) + 3)) < (h18 96 (10 + 4 * (6 * y + x) + 1)))); omega) (by show (h18 90 26) = go; omega) (by show (h18 90 29) = wt; omega) (by show (h18 90 30) = sf; omega) (by show (h18 90 25) = sm; omega) (by show 0 ≤ go ∧ go ≤ 3 + (h18 96 8); omega) (by rw [show h18 96 = h 96 from E24]; exact W) (by rw [show h18 96 = h 96 from E24, show h18 97 = h 97 from E25, show h18 98 = h 98 from E26]; exact CD) (by rw [show h18 96 = h 96 from E24, show h18 103 = h 103 from E29, show h18 97 = h 97 from E25, show h18 98 = h 98 from E26]; exact y15_)) ?_
    rintro _ z57 h58 ⟨v42, rfl, I59, f41, e43, e44, e45, e46, e47, e48, e49, e50, e51, e52, e53, e54, y55, y56⟩
    have E60 : h58 92 = h 92 := Eq.trans e43 E20
    have E61 : h58 93 = h 93 := Eq.trans e44 E21
    have E62 : h58 94 = h 94 := Eq.trans e45 E22
    have E63 : h58 95 = h 95 := Eq.trans e46 E23
    have E64 : h58 96 = h 96 := Eq.trans e47 E24
    have E65 : h58 97 = h 97 := Eq.trans e48 E25
    have E66 : h58 98 = h 98 := Eq.trans e49 E26
    have E67 : h58 99 = h 99 := Eq.trans e50 E27
    have E68 : h58 100 = h 100 := Eq.trans e51 E28
    have E69 : h58 103 = h 103 := Eq.trans e52 E29
    have E70 : h58 109 = h 109 := Eq.trans e53 E30
    have E71 : h58 114 = h 114 := Eq.trans e54 E31
    show ov_R u d ov_m275 31 [(0, ov_r 90), (1, ov_i x), (2, ov_i y), (3, ov_i t), (4, ov_i sn), (5, ov_i v2)] [ov_i v42] z57 h58 (P_Mo_worthSeen_90 F z h go wt sf sm x y t sn)
    have f72 : (h58 90 2) = (h18 90 2) ∧ (h58 90 7) = (h18 90 7) ∧ (h58 90 8) = (h18 90 8) ∧ (h58 90 13) = (h18 90 13) ∧ (h58 90 20) = (h18 90 20) ∧ (h58 90 22) = (h18 90 22) ∧ (h58 90 25) = (h18 90 25) ∧ (h58 90 26) = (h18 90 26) ∧ (h58 90 28) = (h18 90 28) ∧ (h58 90 29) = (h18 90 29) ∧ (h58 90 30) = (h18 90 30) ∧ (h58 90 34) = (h18 90 34) ∧ -1 ≤ v42 ∧ v42 ≤ 89000 * (13 - x - y) := f41
    clear f41
    rw [show h18 103 = h 103 from E29] at y55
    rw [show h18 96 = h 96 from E24] at y55
    rw [show h18 97 = h 97 from E25] at y55
    rw [show h18 98 = h 98 from E26] at y55
    have y55_ : ov_MI (h 96) (h 103) (h 97) (h 98) go wt sf sm (h58 105) (h58 106) := y55
    rw [show h18 103 = h 103 from E29] at y56
    rw [show h18 96 = h 96 from E24] at y56
    rw [show h18 97 = h 97 from E25] at y56
    rw [show h18 98 = h 98 from E26] at y56
    have y56_ : (0 ≤ v42 ↔ ov_go (h 96) (h 103) (h 97) (h 98) go wt sf (x + 1 - v2) (y + v2) (ov_nx (h 96) t (ov_wm (h 96) (6 * y + x) v2 sn))) := y56
    exact ov_reti (st := []) d_275_31 rfl ⟨_, rfl, I59, (by show (h58 90 2) = (h 90 2) ∧ (h58 90 7) = (h 90 7) ∧ (h58 90 8) = (h 90 8) ∧ (h58 90 13) = (h 90 13) ∧ (h58 90 20) = (h 90 20) ∧ (h58 90 22) = (h 90 22) ∧ (h58 90 25) = (h 90 25) ∧ (h58 90 26) = (h 90 26) ∧ (h58 90 28) = (h 90 28) ∧ (h58 90 29) = (h 90 29) ∧ (h58 90 30) = (h 90 30) ∧ (h58 90 34) = (h 90 34) ∧ -1 ≤ v42 ∧ v42 ≤ 89000 * (13 - x - y); omega), E60, E61, E62, E63, E64, E65, E66, E67, E68, E69, E70, E71, y55_, (y56_.trans (ov_wf_gs y16_ (by omega)))⟩
  · skip
    refine ov_blk (ls2 := [(0, ov_r 90), (1, ov_i x), (2, ov_i y), (3, ov_i t), (4, ov_i sn), (5, ov_i v2)]) (st2 := [ov_i (-1)]) (pc2 := 17) b_275_16_1 rfl rfl ?_
    refine ov_goto (tgt := 31) d_275_17 (by decide) ?_
    exact ov_reti (st := []) d_275_31 rfl ⟨_, rfl, I19, (by show (h18 90 2) = (h 90 2) ∧ (h18 90 7) = (h 90 7) ∧ (h18 90 8) = (h 90 8) ∧ (h18 90 13) = (h 90 13) ∧ (h18 90 20) = (h 90 20) ∧ (h18 90 22) = (h 90 22) ∧ (h18 90 25) = (h 90 25) ∧ (h18 90 26) = (h 90 26) ∧ (h18 90 28) = (h 90 28) ∧ (h18 90 29) = (h 90 29) ∧ (h18 90 30) = (h 90 30) ∧ (h18 90 34) = (h 90 34) ∧ -1 ≤ (-1) ∧ (-1) ≤ 89000 * (13 - x - y); omega), E20, E21, E22, E23, E24, E25, E26, E27, E28, E29, E30, E31, y15_, (iff_of_false (by decide) (ov_wf_no y16_ (by omega)))⟩
set_option maxHeartbeats 4000000 in
theorem c_Mo_worthHidden_90 {u : ov_U} {F : ov_H × ov_Z} (go : Int) (wt : Int) (sf : Int) (sm : Int) (k : Nat) (HV : ∀ k' : Nat, k' < k → ∀ {z : ov_Z} {h : ov_H} (d : Nat) (hd : (10 + 5 * k' + 4) ≤ d) (U : ov_cap u) (I : ov_N F z h) (x : Int) (y : Int) (s : Int) (g_x : ov_g x) (g_y : ov_g y) (g_s : ov_g s) (p0 : 0 ≤ x ∧ x ≤ 5 ∧ 0 ≤ y ∧ y ≤ 8) (p1 : x < (h 96 0) ∧ y < (h 96 1)) (p2 : x + y + (k' : Int) = 13) (p3 : 0 ≤ s ∧ s ≤ 2000000) (p4 : (h 90 26) = go) (p5 : (h 90 29) = wt) (p6 : (h 90 30) = sf) (p7 : (h 90 25) = sm) (p8 : 0 ≤ go ∧ go ≤ 3 + (h 96 8)) (W : ov_WT (h 96)) (CD : ov_CD (h 96) (h 97) (h 98)) (MI : ov_MI (h 96) (h 103) (h 97) (h 98) go wt sf sm (h 105) (h 106)), ov_T u d ov_m272 [ov_r 90, ov_i x, ov_i y, ov_i s] z h (P_Mo_worthFrom_90 F z h go wt sf sm x y s)) {z : ov_Z} {h : ov_H} (d : Nat) (hd : (10 + 5 * k + 3) ≤ d) (U : ov_cap u) (I : ov_N F z h) (x : Int) (y : Int) (t : Int) (g_x : ov_g x) (g_y : ov_g y) (g_t : ov_g t) (p0 : 0 ≤ x ∧ x ≤ 5 ∧ 0 ≤ y ∧ y ≤ 8) (p1 : x < (h 96 0) ∧ y < (h 96 1)) (p2 : x + y + (k : Int) = 13) (p3 : 0 ≤ t ∧ t < (h 96 9)) (p4 : (h 96 (10 + 4 * (6 * y + x))) = 2) (p5 : (h 90 26) = go) (p6 : (h 90 29) = wt) (p7 : (h 90 30) = sf) (p8 : (h 90 25) = sm) (p9 : 0 ≤ go ∧ go ≤ 3 + (h 96 8)) (W : ov_WT (h 96)) (CD : ov_CD (h 96) (h 97) (h 98)) (MI : ov_MI (h 96) (h 103) (h 97) (h 98) go wt sf sm (h 105) (h 106)) : ov_T u d ov_m274 [ov_r 90, ov_i x, ov_i y, ov_i t] z h (P_Mo_worthHidden_90 F z h go wt sf sm x y t) := by
  refine ov_en rfl (Nat.le_of_ble_eq_true rfl) ?_
  show ov_R u d ov_m274 0 [(0, ov_r 90), (1, ov_i x), (2, ov_i y), (3, ov_i t)] [] z h (P_Mo_worthHidden_90 F z h go wt sf sm x y t)
  have t0 := t96_0 I
  have t1 := t96_1 I
  have t9 := t96_9 I
  have w1 := ov_WT_at W (c := 6 * y + x) (by omega)
  refine ov_blk (ls2 := [(0, ov_r 90), (1, ov_i x), (2, ov_i y), (3, ov_i t), (4, ov_l 0), (6, ov_i 0)]) (st2 := [ov_i 1, ov_i y, ov_i x, ov_r 90]) (pc2 := 10) b_274_0_8 rfl rfl ?_
  refine ov_cV (as := [ov_i x, ov_i y, ov_i 1]) (st := []) (d2 := d - 1) d_274_10 lk_Mo_289 rfl (Nat.le_of_ble_eq_true rfl) (c := 1) (zb_90 I) (zs_90 I) ⟨by decide, rfl⟩ (by omega) (c_Mo_lightAt_90 (d - 1) (by omega) U I x y 1 (by omega) (by omega) (by omega) (by omega) (by omega)) ?_
  rintro _ _ _ ⟨v2, rfl, rfl, rfl, f1⟩
  show ov_R u d ov_m274 13 [(0, ov_r 90), (1, ov_i x), (2, ov_i y), (3, ov_i t), (4, ov_l 0), (6, ov_i 0)] [ov_i v2] z h (P_Mo_worthHidden_90 F z h go wt sf sm x y t)
  have f3 : v2 = (h 96 (10 + 4 * (6 * y + x) + (1 : Int))) ∧ ((1 : Int) = 1 → 0 ≤ v2 ∧ v2 ≤ 60) ∧ ((1 : Int) = 2 → 0 ≤ v2 ∧ v2 ≤ 59) ∧ ((1 : Int) = 3 → 0 ≤ v2 ∧ v2 ≤ 60) := f1
  clear f1
  refine ov_blk (ls2 := [(0, ov_r 90), (1, ov_i x), (2, ov_i y), (3, ov_i t), (4, ov_l 0), (6, ov_i 0), (7, ov_i v2), (8, ov_i 0)]) (st2 := []) (pc2 := 18) b_274_13_3 rfl rfl ?_
  have L7 : ∀ (n4 : Nat) (x4 : Int) (x6 : Int) (x8 : Int) (z8 : ov_Z) (h9 : ov_H) (I10 : ov_N F z8 h9) (E11 : h9 92 = h 92) (E12 : h9 93 = h 93) (E13 : h9 94 = h 94) (E14 : h9 95 = h 95) (E15 : h9 96 = h 96) (E16 : h9 97 = h 97) (E17 : h9 98 = h 98) (E18 : h9 99 = h 99) (E19 : h9 100 = h 100) (E20 : h9 103 = h 103) (E21 : h9 109 = h 109) (E22 : h9 114 = h 114) (xs : x4 ≤ 89000 * (13 - x - y) * x8) (xg : ∀ q : Int, 0 ≤ q → q < x8 → ov_gs (h 96) (h 97) (h 98) (ov_go (h 96) (h 103) (h 97) (h 98) go wt sf) go x y t q) (xm : ov_MI (h 96) (h 103) (h 97) (h 98) go wt sf sm (h9 105) (h9 106)) (q6 : 0 ≤ x8 ∧ x8 ≤ v2 ∧ 0 ≤ x4 ∧ x4 ≤ 1200000 * x8 ∧ 0 ≤ x6 ∧ x6 ≤ 89000 * (13 - x - y) ∧ (h9 90 2) = (h 90 2) ∧ (h9 90 7) = (h 90 7) ∧ (h9 90 8) = (h 90 8) ∧ (h9 90 13) = (h 90 13) ∧ (h9 90 20) = (h 90 20) ∧ (h9 90 22) = (h 90 22) ∧ (h9 90 25) = (h 90 25) ∧ (h9 90 26) = (h 90 26) ∧ (h9 90 28) = (h 90 28) ∧ (h9 90 29) = (h 90 29) ∧ (h9 90 30) = (h 90 30) ∧ (h9 90 34) = (h 90 34)), 60 - x8 < (n4 : Int) → ov_R u d ov_m274 18 [(0, ov_r 90), (1, ov_i x), (2, ov_i y), (3, ov_i t), (4, ov_l x4), (6, ov_i x6), (7, ov_i v2), (8, ov_i x8)] [] z8 h9 (P_Mo_worthHidden_90 F z h go wt sf sm x y t) := by
    intro n4
    induction n4 with
    | zero =>
      intro x4 x6 x8 z8 h9 I10 E11 E12 E13 E14 E15 E16 E17 E18 E19 E20 E21 E22 xs xg xm q6 hn23
      exact absurd hn23 (by omega)
    | succ n4 ih5 =>
      intro x4 x6 x8 z8 h9 I10 E11 E12 E13 E14 E15 E16 E17 E18 E19 E20 E21 E22 xs xg xm q6 hn23
      refine ov_blk (ls2 := [(0, ov_r 90), (1, ov_i x), (2, ov_i y), (3, ov_i t), (4, ov_l x4), (6, ov_i x6), (7, ov_i v2), (8, ov_i x8)]) (st2 := [ov_i v2, ov_i x8]) (pc2 := 22) b_274_18_2 rfl rfl ?_
      refine ov_icge (tgt := 73) d_274_22 (by decide) (by omega) (by omega) (fun c24 => ?_) (fun c24 => ?_)
      · skip
        refine ov_blk (ls2 := [(0, ov_r 90), (1, ov_i x), (2, ov_i y), (3, ov_i t), (4, ov_l x4), (6, ov_i x6), (7, ov_i v2), (8, ov_i x8)]) (st2 := [ov_r 90]) (pc2 := 74) b_274_73_1 rfl rfl ?_
        refine ov_getf (v := ov_i (h9 90 27)) d_274_74 fl_Mo_349 (zb_90 I10) (zs_90 I10) rfl ?_
        have g25 := rg_90_27 I10
        refine ov_ifeq (tgt := 85) d_274_77 (by decide) (by omega) (fun c26 => ?_) (fun c26 => ?_)
        · skip
          refine ov_blk (ls2 := [(0, ov_r 90), (1, ov_i x), (2, ov_i y), (3, ov_i t), (4, ov_l x4), (6, ov_i x6), (7, ov_i v2), (8, ov_i x8)]) (st2 := [ov_l (ov_w v2), ov_l x4]) (pc2 := 90) b_274_85_3 rfl rfl ?_
          have g27 := ov_wg v2
          have g28 := ov_wq v2
          have xs2 : x4 ≤ 89000 * (13 - x - y) * (ov_w v2) := by rw [show (ov_w v2) = x8 by omega]; exact xs
          have xd := ov_hsd (n := (ov_w v2)) (by omega) (by omega) xs2
          refine ov_ldiv d_274_90 (by omega) (by omega) (by omega) ?_
          refine ov_blk (ls2 := [(0, ov_r 90), (1, ov_i x), (2, ov_i y), (3, ov_i t), (4, ov_l x4), (6, ov_i x6), (7, ov_i v2), (8, ov_i x8)]) (st2 := [ov_i (Int.tdiv x4 (ov_w v2))]) (pc2 := 92) b_274_91_1 rfl rfl ?_
          exact ov_reti (st := []) d_274_92 rfl ⟨_, rfl, I10, (by show (h9 90 2) = (h 90 2) ∧ (h9 90 7) = (h 90 7) ∧ (h9 90 8) = (h 90 8) ∧ (h9 90 13) = (h 90 13) ∧ (h9 90 20) = (h 90 20) ∧ (h9 90 22) = (h 90 22) ∧ (h9 90 25) = (h 90 25) ∧ (h9 90 26) = (h 90 26) ∧ (h9 90 28) = (h 90 28) ∧ (h9 90 29) = (h 90 29) ∧ (h9 90 30) = (h 90 30) ∧ (h9 90 34) = (h 90 34) ∧ -1 ≤ (Int.tdiv x4 (ov_w v2)) ∧ (Int.tdiv x4 (ov_w v2)) ≤ 89000 * (13 - x - y); omega), E11, E12, E13, E14, E15, E16, E17, E18, E19, E20, E21, E22, xm, (iff_of_true (by omega) (fun q a b => xg q a (by omega)))⟩
        · skip
          refine ov_blk (ls2 := [(0, ov_r 90), (1, ov_i x), (2, ov_i y), (3, ov_i t), (4, ov_l x4), (6, ov_i x6), (7, ov_i v2), (8, ov_i x8)]) (st2 := [ov_i x6]) (pc2 := 82) b_274_80_1 rfl rfl ?_
          refine ov_goto (tgt := 92) d_274_82 (by decide) ?_
          exact ov_reti (st := []) d_274_92 rfl ⟨_, rfl, I10, (by show (h9 90 2) = (h 90 2) ∧ (h9 90 7) = (h 90 7) ∧ (h9 90 8) = (h 90 8) ∧ (h9 90 13) = (h 90 13) ∧ (h9 90 20) = (h 90 20) ∧ (h9 90 22) = (h 90 22) ∧ (h9 90 25) = (h 90 25) ∧ (h9 90 26) = (h 90 26) ∧ (h9 90 28) = (h 90 28) ∧ (h9 90 29) = (h 90 29) ∧ (h9 90 30) = (h 90 30) ∧ (h9 90 34) = (h 90 34) ∧ -1 ≤ x6 ∧ x6 ≤ 89000 * (13 - x - y); omega), E11, E12, E13, E14, E15, E16, E17, E18, E19, E20, E21, E22, xm, (iff_of_true (by omega) (fun q a b => xg q a (by omega)))⟩
      · skip
        refine ov_blk (ls2 := [(0, ov_r 90), (1, ov_i x), (2, ov_i y), (3, ov_i t), (4, ov_l x4), (6, ov_i x6), (7, ov_i v2), (8, ov_i x8)]) (st2 := [ov_i x8, ov_i t, ov_i y, ov_i x, ov_r 90]) (pc2 := 31) b_274_25_5 rfl rfl ?_
        have cf29 : h9 96 (0) = h 96 (0) := congrFun E15 (0)
        have cf30 : h9 96 (1) = h 96 (1) := congrFun E15 (1)
        have cf31 : h9 96 (9) = h 96 (9) := congrFun E15 (9)
        have cf32 : h9 96 (8) = h 96 (8) := congrFun E15 (8)
        refine ov_cV (as := [ov_i x, ov_i y, ov_i t, ov_i x8]) (st := []) (d2 := d - 1) d_274_31 lk_Mo_368 rfl (Nat.le_of_ble_eq_true rfl) (c := 1) (zb_90 I10) (zs_90 I10) ⟨by decide, rfl⟩ (by omega) (c_Mo_worthSeen_90 go wt sf sm k HV (d - 1) (by omega) U I10 x y t x8 (by omega) (by omega) (by omega) (by omega) (by omega) (by show x < (h9 96 0) ∧ y < (h9 96 1); omega) (by omega) (by show 0 ≤ t ∧ t < (h9 96 9); omega) (by omega) (by show (h9 90 26) = go; omega) (by show (h9 90 29) = wt; omega) (by show (h9 90 30) = sf; omega) (by show (h9 90 25) = sm; omega) (by show 0 ≤ go ∧ go ≤ 3 + (h9 96 8); omega) (by rw [show h9 96 = h 96 from E15]; exact W) (by rw [show h9 96 = h 96 from E15, show h9 97 = h 97 from E16, show h9 98 = h 98 from E17]; exact CD) (by rw [show h9 96 = h 96 from E15, show h9 103 = h 103 from E20, show h9 97 = h 97 from E16, show h9 98 = h 98 from E17]; exact xm)) ?_
        rintro _ z49 h50 ⟨v34, rfl, I51, f33, e35, e36, e37, e38, e39, e40, e41, e42, e43, e44, e45, e46, y47, y48⟩
        have E52 : h50 92 = h 92 := Eq.trans e35 E11
        have E53 : h50 93 = h 93 := Eq.trans e36 E12
        have E54 : h50 94 = h 94 := Eq.trans e37 E13
        have E55 : h50 95 = h 95 := Eq.trans e38 E14
        have E56 : h50 96 = h 96 := Eq.trans e39 E15
        have E57 : h50 97 = h 97 := Eq.trans e40 E16
        have E58 : h50 98 = h 98 := Eq.trans e41 E17
        have E59 : h50 99 = h 99 := Eq.trans e42 E18
        have E60 : h50 100 = h 100 := Eq.trans e43 E19
        have E61 : h50 103 = h 103 := Eq.trans e44 E20
        have E62 : h50 109 = h 109 := Eq.trans e45 E21
        have E63 : h50 114 = h 114 := Eq.trans e46 E22
        show ov_R u d ov_m274 34 [(0, ov_r 90), (1, ov_i x), (2, ov_i y), (3, ov_i t), (4, ov_l x4), (6, ov_i x6), (7, ov_i v2), (8, ov_i x8)] [ov_i v34] z49 h50 (P_Mo_worthHidden_90 F z h go wt sf sm x y t)
        have f64 : (h50 90 2) = (h9 90 2) ∧ (h50 90 7) = (h9 90 7) ∧ (h50 90 8) = (h9 90 8) ∧ (h50 90 13) = (h9 90 13) ∧ (h50 90 20) = (h9 90 20) ∧ (h50 90 22) = (h9 90 22) ∧ (h50 90 25) = (h9 90 25) ∧ (h50 90 26) = (h9 90 26) ∧ (h50 90 28) = (h9 90 28) ∧ (h50 90 29) = (h9 90 29) ∧ (h50 90 30) = (h9 90 30) ∧ (h50 90 34) = (h9 90 34) ∧ -1 ≤ v34 ∧ v34 ≤ 89000 * (13 - x - y) := f33
        clear f33
        rw [show h9 103 = h 103 from E20] at y47
        rw [show h9 96 = h 96 from E15] at y47
        rw [show h9 97 = h 97 from E16] at y47
        rw [show h9 98 = h 98 from E17] at y47
        have y47_ : ov_MI (h 96) (h 103) (h 97) (h 98) go wt sf sm (h50 105) (h50 106) := y47
        rw [show h9 103 = h 103 from E20] at y48
        rw [show h9 96 = h 96 from E15] at y48
        rw [show h9 97 = h 97 from E16] at y48
        rw [show h9 98 = h 98 from E17] at y48
        have y48_ : (0 ≤ v34 ↔ ov_gs (h 96) (h 97) (h 98) (ov_go (h 96) (h 103) (h 97) (h 98) go wt sf) go x y t x8) := y48
        refine ov_blk (ls2 := [(0, ov_r 90), (1, ov_i x), (2, ov_i y), (3, ov_i t), (4, ov_l x4), (6, ov_i x6), (7, ov_i v2), (8, ov_i x8), (9, ov_i v34)]) (st2 := [ov_i v34]) (pc2 := 38) b_274_34_2 rfl rfl ?_
        refine ov_ifge (tgt := 43) d_274_38 (by decide) (by omega) (fun c65 => ?_) (fun c65 => ?_)
        · skip
          refine ov_blk (ls2 := [(0, ov_r 90), (1, ov_i x), (2, ov_i y), (3, ov_i t), (4, ov_l (x4 + (ov_w v34))), (6, ov_i x6), (7, ov_i v2), (8, ov_i x8), (9, ov_i v34)]) (st2 := [ov_i x6, ov_i v34]) (pc2 := 55) b_274_43_7 rfl rfl ?_
          have g66 := ov_wg v34
          have g67 := ov_wq v34
          refine ov_icle (tgt := 63) d_274_55 (by decide) (by omega) (by omega) (fun c68 => ?_) (fun c68 => ?_)
          · skip
            refine ov_blk (ls2 := [(0, ov_r 90), (1, ov_i x), (2, ov_i y), (3, ov_i t), (4, ov_l (x4 + (ov_w v34))), (6, ov_i x6), (7, ov_i v2), (8, ov_i (x8 + 1)), (9, ov_i v34)]) (st2 := []) (pc2 := 70) b_274_63_3 rfl rfl ?_
            refine ov_goto (tgt := 18) d_274_70 (by decide) ?_
            refine ov_sub (ls2 := [(0, ov_r 90), (1, ov_i x), (2, ov_i y), (3, ov_i t), (4, ov_l (x4 + (ov_w v34))), (6, ov_i x6), (7, ov_i v2), (8, ov_i (x8 + 1))]) (List.Sublist.subset (by repeat (first | exact List.Sublist.refl _ | apply List.Sublist.cons_cons | apply List.Sublist.cons))) ?_
            exact ih5 (x4 + (ov_w v34)) x6 (x8 + 1) _ _ I51 E52 E53 E54 E55 E56 E57 E58 E59 E60 E61 E62 E63 (by have q := ov_hsa (v := v34) xs (by omega); omega) (fun q a b => if c : q = x8 then (by rw [c]; exact y48_.mp (by omega)) else xg q a (by omega)) y47_ (by show 0 ≤ (x8 + 1) ∧ (x8 + 1) ≤ v2 ∧ 0 ≤ (x4 + (ov_w v34)) ∧ (x4 + (ov_w v34)) ≤ 1200000 * (x8 + 1) ∧ 0 ≤ x6 ∧ x6 ≤ 89000 * (13 - x - y) ∧ (h50 90 2) = (h 90 2) ∧ (h50 90 7) = (h 90 7) ∧ (h50 90 8) = (h 90 8) ∧ (h50 90 13) = (h 90 13) ∧ (h50 90 20) = (h 90 20) ∧ (h50 90 22) = (h 90 22) ∧ (h50 90 25) = (h 90 25) ∧ (h50 90 26) = (h 90 26) ∧ (h50 90 28) = (h 90 28) ∧ (h50 90 29) = (h 90 29) ∧ (h50 90 30) = (h 90 30) ∧ (h50 90 34) = (h 90 34); omega) (by omega)
          · skip
            refine ov_blk (ls2 := [(0, ov_r 90), (1, ov_i x), (2, ov_i y), (3, ov_i t), (4, ov_l (x4 + (ov_w v34))), (6, ov_i x6), (7, ov_i v2), (8, ov_i x8), (9, ov_i v34)]) (st2 := [ov_i v34]) (pc2 := 60) b_274_58_1 rfl rfl ?_
            refine ov_goto (tgt := 65) d_274_60 (by decide) ?_
            refine ov_blk (ls2 := [(0, ov_r 90), (1, ov_i x), (2, ov_i y), (3, ov_i t), (4, ov_l (x4 + (ov_w v34))), (6, ov_i v34), (7, ov_i v2), (8, ov_i (x8 + 1)), (9, ov_i v34)]) (st2 := []) (pc2 := 70) b_274_65_2 rfl rfl ?_
            refine ov_goto (tgt := 18) d_274_70 (by decide) ?_
            refine ov_sub (ls2 := [(0, ov_r 90), (1, ov_i x), (2, ov_i y), (3, ov_i t), (4, ov_l (x4 + (ov_w v34))), (6, ov_i v34), (7, ov_i v2), (8, ov_i (x8 + 1))]) (List.Sublist.subset (by repeat (first | exact List.Sublist.refl _ | apply List.Sublist.cons_cons | apply List.Sublist.cons))) ?_
            exact ih5 (x4 + (ov_w v34)) v34 (x8 + 1) _ _ I51 E52 E53 E54 E55 E56 E57 E58 E59 E60 E61 E62 E63 (by have q := ov_hsa (v := v34) xs (by omega); omega) (fun q a b => if c : q = x8 then (by rw [c]; exact y48_.mp (by omega)) else xg q a (by omega)) y47_ (by show 0 ≤ (x8 + 1) ∧ (x8 + 1) ≤ v2 ∧ 0 ≤ (x4 + (ov_w v34)) ∧ (x4 + (ov_w v34)) ≤ 1200000 * (x8 + 1) ∧ 0 ≤ v34 ∧ v34 ≤ 89000 * (13 - x - y) ∧ (h50 90 2) = (h 90 2) ∧ (h50 90 7) = (h 90 7) ∧ (h50 90 8) = (h 90 8) ∧ (h50 90 13) = (h 90 13) ∧ (h50 90 20) = (h 90 20) ∧ (h50 90 22) = (h 90 22) ∧ (h50 90 25) = (h 90 25) ∧ (h50 90 26) = (h 90 26) ∧ (h50 90 28) = (h 90 28) ∧ (h50 90 29) = (h 90 29) ∧ (h50 90 30) = (h 90 30) ∧ (h50 90 34) = (h 90 34); omega) (by omega)
        · skip
          refine ov_blk (ls2 := [(0, ov_r 90), (1, ov_i x), (2, ov_i y), (3, ov_i t), (4, ov_l x4), (6, ov_i x6), (7, ov_i v2), (8, ov_i x8), (9, ov_i v34)]) (st2 := [ov_i (-1)]) (pc2 := 42) b_274_41_1 rfl rfl ?_
          exact ov_reti (st := []) d_274_42 rfl ⟨_, rfl, I51, (by show (h50 90 2) = (h 90 2) ∧ (h50 90 7) = (h 90 7) ∧ (h50 90 8) = (h 90 8) ∧ (h50 90 13) = (h 90 13) ∧ (h50 90 20) = (h 90 20) ∧ (h50 90 22) = (h 90 22) ∧ (h50 90 25) = (h 90 25) ∧ (h50 90 26) = (h 90 26) ∧ (h50 90 28) = (h 90 28) ∧ (h50 90 29) = (h 90 29) ∧ (h50 90 30) = (h 90 30) ∧ (h50 90 34) = (h 90 34) ∧ -1 ≤ (-1) ∧ (-1) ≤ 89000 * (13 - x - y); omega), E52, E53, E54, E55, E56, E57, E58, E59, E60, E61, E62, E63, y47_, (iff_of_false (by decide) (fun a => absurd (y48_.mpr (a x8 (by omega) (by omega))) (by omega)))⟩
  exact L7 61 0 0 0 _ _ I rfl rfl rfl rfl rfl rfl rfl rfl rfl rfl rfl rfl (by omega) (fun q a b => absurd a (by omega)) MI (by show 0 ≤ 0 ∧ 0 ≤ v2 ∧ 0 ≤ 0 ∧ 0 ≤ 1200000 * 0 ∧ 0 ≤ 0 ∧ 0 ≤ 89000 * (13 - x - y) ∧ (h 90 2) = (h 90 2) ∧ (h 90 7) = (h 90 7) ∧ (h 90 8) = (h 90 8) ∧ (h 90 13) = (h 90 13) ∧ (h 90 20) = (h 90 20) ∧ (h 90 22) = (h 90 22) ∧ (h 90 25) = (h 90 25) ∧ (h 90 26) = (h 90 26) ∧ (h 90 28) = (h 90 28) ∧ (h 90 29) = (h 90 29) ∧ (h 90 30) = (h 90 30) ∧ (h 90 34) = (h 90 34); omega) (by omega)
set_option maxHeartbeats 4000000 in
theorem c_Mo_worthFrom_90 {u : ov_U} {F : ov_H × ov_Z} (go : Int) (wt : Int) (sf : Int) (sm : Int) (k : Nat) (HV : ∀ k' : Nat, k' < k → ∀ {z : ov_Z} {h : ov_H} (d : Nat) (hd : (10 + 5 * k' + 4) ≤ d) (U : ov_cap u) (I : ov_N F z h) (x : Int) (y : Int) (s : Int) (g_x : ov_g x) (g_y : ov_g y) (g_s : ov_g s) (p0 : 0 ≤ x ∧ x ≤ 5 ∧ 0 ≤ y ∧ y ≤ 8) (p1 : x < (h 96 0) ∧ y < (h 96 1)) (p2 : x + y + (k' : Int) = 13) (p3 : 0 ≤ s ∧ s ≤ 2000000) (p4 : (h 90 26) = go) (p5 : (h 90 29) = wt) (p6 : (h 90 30) = sf) (p7 : (h 90 25) = sm) (p8 : 0 ≤ go ∧ go ≤ 3 + (h 96 8)) (W : ov_WT (h 96)) (CD : ov_CD (h 96) (h 97) (h 98)) (MI : ov_MI (h 96) (h 103) (h 97) (h 98) go wt sf sm (h 105) (h 106)), ov_T u d ov_m272 [ov_r 90, ov_i x, ov_i y, ov_i s] z h (P_Mo_worthFrom_90 F z h go wt sf sm x y s)) {z : ov_Z} {h : ov_H} (d : Nat) (hd : (10 + 5 * k + 4) ≤ d) (U : ov_cap u) (I : ov_N F z h) (x : Int) (y : Int) (s : Int) (g_x : ov_g x) (g_y : ov_g y) (g_s : ov_g s) (p0 : 0 ≤ x ∧ x ≤ 5 ∧ 0 ≤ y ∧ y ≤ 8) (p1 : x < (h 96 0) ∧ y < (h 96 1)) (p2 : x + y + (k : Int) = 13) (p3 : 0 ≤ s ∧ s ≤ 2000000) (p4 : (h 90 26) = go) (p5 : (h 90 29) = wt) (p6 : (h 90 30) = sf) (p7 : (h 90 25) = sm) (p8 : 0 ≤ go ∧ go ≤ 3 + (h 96 8)) (W : ov_WT (h 96)) (CD : ov_CD (h 96) (h 97) (h 98)) (MI : ov_MI (h 96) (h 103) (h 97) (h 98) go wt sf sm (h 105) (h 106)) : ov_T u d ov_m272 [ov_r 90, ov_i x, ov_i y, ov_i s] z h (P_Mo_worthFrom_90 F z h go wt sf sm x y s) := by
  refine ov_en rfl (Nat.le_of_ble_eq_true rfl) ?_
  show ov_R u d ov_m272 0 [(0, ov_r 90), (1, ov_i x), (2, ov_i y), (3, ov_i s)] [] z h (P_Mo_worthFrom_90 F z h go wt sf sm x y s)
  have t0 := t96_0 I
  have t1 := t96_1 I
  have t9 := t96_9 I
  refine ov_blk (ls2 := [(0, ov_r 90), (1, ov_i x), (2, ov_i y), (3, ov_i s)]) (st2 := [ov_i y, ov_i x, ov_r 90]) (pc2 := 3) b_272_0_3 rfl rfl ?_
  refine ov_cV (as := [ov_i x, ov_i y]) (st := []) (d2 := d - 1) d_272_3 lk_Mo_335 rfl (Nat.le_of_ble_eq_true rfl) (c := 1) (zb_90 I) (zs_90 I) ⟨by decide, rfl⟩ (by omega) (c_Mo_isHome_90 (d - 1) (by omega) U I x y (by omega) (by omega) (by omega)) ?_
  rintro _ _ _ ⟨v2, rfl, rfl, rfl, f1⟩
  show ov_R u d ov_m272 6 [(0, ov_r 90), (1, ov_i x), (2, ov_i y), (3, ov_i s)] [ov_i v2] z h (P_Mo_worthFrom_90 F z h go wt sf sm x y s)
  have f3 : (v2 = 0 ∨ v2 = 1) ∧ (v2 = 1 → x = (h 96 0) - 1 ∧ y = (h 96 1) - 1) ∧ (v2 = 0 → ¬ (x = (h 96 0) - 1 ∧ y = (h 96 1) - 1)) := f1
  clear f1
  refine ov_ifeq (tgt := 11) d_272_6 (by decide) (by omega) (fun c4 => ?_) (fun c4 => ?_)
  · skip
    have f3_ : v2 = 0 := by omega
    have f5 : ¬ (x = (h 96 0) - 1 ∧ y = (h 96 1) - 1) := f3.2.2 (by omega)
    clear f3
    refine ov_blk (ls2 := [(0, ov_r 90), (1, ov_i x), (2, ov_i y), (3, ov_i s)]) (st2 := [ov_r 90, ov_i s]) (pc2 := 13) b_272_11_2 rfl rfl ?_
    refine ov_getf (v := ov_r 96) d_272_13 fl_Mo_81 (zb_90 I) (zs_90 I) (congrArg ov_r (rg_90_10 I)) ?_
    refine ov_blk (ls2 := [(0, ov_r 90), (1, ov_i x), (2, ov_i y), (3, ov_i s)]) (st2 := [ov_i 9, ov_r 96, ov_i s]) (pc2 := 18) b_272_16_1 rfl rfl ?_
    refine ov_iald d_272_18 (zb_96 I) (zs_96 I) (by omega) ?_
    have g6 := t96_9 I
    have gt1 := ov_tmv (x := s) (y := h 96 9) (by omega) (by omega)
    have gt2 : Int.tmod s (h 96 9) = s % h 96 9 := ov_tm (by omega)
    refine ov_irem d_272_19 (by omega) (by omega) (by omega) ?_
    have g7 := ov_tmg (a := s) (b := (h 96 9)) (by omega) (by omega)
    refine ov_blk (ls2 := [(0, ov_r 90), (1, ov_i x), (2, ov_i y), (3, ov_i s), (4, ov_i (Int.tmod s (h 96 9))), (5, ov_i ((1200 * ((6 * y) + x)) + (Int.tmod s (h 96 9))))]) (st2 := [ov_r 90]) (pc2 := 38) b_272_20_12 rfl rfl ?_
    refine ov_getf (v := ov_r 106) d_272_38 fl_Mo_113 (zb_90 I) (zs_90 I) (congrArg ov_r (rg_90_24 I)) ?_
    refine ov_blk (ls2 := [(0, ov_r 90), (1, ov_i x), (2, ov_i y), (3, ov_i s), (4, ov_i (Int.tmod s (h 96 9))), (5, ov_i ((1200 * ((6 * y) + x)) + (Int.tmod s (h 96 9))))]) (st2 := [ov_i ((1200 * ((6 * y) + x)) + (Int.tmod s (h 96 9))), ov_r 106]) (pc2 := 43) b_272_41_1 rfl rfl ?_
    refine ov_iald d_272_43 (zb_106 I) (zs_106 I) (by omega) ?_
    have g8 := ra_106 I ((1200 * ((6 * y) + x)) + (Int.tmod s (h 96 9)))
    refine ov_blk (ls2 := [(0, ov_r 90), (1, ov_i x), (2, ov_i y), (3, ov_i s), (4, ov_i (Int.tmod s (h 96 9))), (5, ov_i ((1200 * ((6 * y) + x)) + (Int.tmod s (h 96 9))))]) (st2 := [ov_r 90, ov_i (h 106 ((1200 * ((6 * y) + x)) + (Int.tmod s (h 96 9))))]) (pc2 := 45) b_272_44_1 rfl rfl ?_
    refine ov_getf (v := ov_i (h 90 25)) d_272_45 fl_Mo_359 (zb_90 I) (zs_90 I) rfl ?_
    have g9 := rg_90_25 I
    refine ov_iceq (tgt := 126) d_272_48 (by decide) (by omega) (by omega) (fun c10 => ?_) (fun c10 => ?_)
    · skip
      have hm : 0 ≤ h 105 ((1200 * ((6 * y) + x)) + (Int.tmod s (h 96 9))) ↔ ov_go (h 96) (h 103) (h 97) (h 98) go wt sf x y (Int.tmod s (h 96 9)) := ov_memo MI (by omega) (by omega) (by omega) (by omega)
      have hr := (ra_105 I ((1200 * ((6 * y) + x)) + (Int.tmod s (h 96 9)))).2.2 (by omega) (by omega)
      refine ov_blk (ls2 := [(0, ov_r 90), (1, ov_i x), (2, ov_i y), (3, ov_i s), (4, ov_i (Int.tmod s (h 96 9))), (5, ov_i ((1200 * ((6 * y) + x)) + (Int.tmod s (h 96 9))))]) (st2 := [ov_r 90]) (pc2 := 127) b_272_126_1 rfl rfl ?_
      refine ov_getf (v := ov_r 105) d_272_127 fl_Mo_110 (zb_90 I) (zs_90 I) (congrArg ov_r (rg_90_23 I)) ?_
      refine ov_blk (ls2 := [(0, ov_r 90), (1, ov_i x), (2, ov_i y), (3, ov_i s), (4, ov_i (Int.tmod s (h 96 9))), (5, ov_i ((1200 * ((6 * y) + x)) + (Int.tmod s (h 96 9))))]) (st2 := [ov_i ((1200 * ((6 * y) + x)) + (Int.tmod s (h 96 9))), ov_r 105]) (pc2 := 132) b_272_130_1 rfl rfl ?_
      refine ov_iald d_272_132 (zb_105 I) (zs_105 I) (by omega) ?_
      have g11 := s105_g I ((1200 * ((6 * y) + x)) + (Int.tmod s (h 96 9)))
      exact ov_reti (st := []) d_272_133 rfl ⟨_, rfl, I, ⟨rfl, rfl, rfl, rfl, rfl, rfl, rfl, rfl, rfl, rfl, rfl, rfl, (by show -1 ≤ (h 105 ((1200 * ((6 * y) + x)) + (Int.tmod s (h 96 9)))) ∧ (h 105 ((1200 * ((6 * y) + x)) + (Int.tmod s (h 96 9)))) ≤ 89000 * (13 - x - y); omega)⟩, rfl, rfl, rfl, rfl, rfl, rfl, rfl, rfl, rfl, rfl, rfl, rfl, MI, (by rw [← gt2]; exact hm)⟩
    · skip
      refine ov_blk (ls2 := [(0, ov_r 90), (1, ov_i x), (2, ov_i y), (3, ov_i s), (4, ov_i (Int.tmod s (h 96 9))), (5, ov_i ((1200 * ((6 * y) + x)) + (Int.tmod s (h 96 9))))]) (st2 := [ov_i y, ov_i x, ov_r 90]) (pc2 := 54) b_272_51_3 rfl rfl ?_
      refine ov_cV (as := [ov_i x, ov_i y]) (st := []) (d2 := d - 1) d_272_54 lk_Mo_362 rfl (Nat.le_of_ble_eq_true rfl) (c := 1) (zb_90 I) (zs_90 I) ⟨by decide, rfl⟩ (by omega) (c_Mo_isUnknown_90 (d - 1) (by omega) U I x y (by omega) (by omega) (by omega)) ?_
      rintro _ _ _ ⟨v13, rfl, rfl, rfl, f12⟩
      show ov_R u d ov_m272 57 [(0, ov_r 90), (1, ov_i x), (2, ov_i y), (3, ov_i s), (4, ov_i (Int.tmod s (h 96 9))), (5, ov_i ((1200 * ((6 * y) + x)) + (Int.tmod s (h 96 9))))] [ov_i v13] z h (P_Mo_worthFrom_90 F z h go wt sf sm x y s)
      have f14 : (v13 = 0 ∨ v13 = 1) ∧ (v13 = 1 → ((h 96 (10 + 4 * (6 * y + x))) = 2 ∧ ¬ (h 103 (4 + 6 * y + x)) = 1 ∧ ¬ 6 * y + x = (h 90 29))) ∧ (v13 = 0 → ¬ ((h 96 (10 + 4 * (6 * y + x))) = 2 ∧ ¬ (h 103 (4 + 6 * y + x)) = 1 ∧ ¬ 6 * y + x = (h 90 29))) := f12
      clear f12
      refine ov_ifeq (tgt := 71) d_272_57 (by decide) (by omega) (fun c15 => ?_) (fun c15 => ?_)
      · skip
        have f14_ : v13 = 0 := by omega
        have f16 : ¬ ((h 96 (10 + 4 * (6 * y + x))) = 2 ∧ ¬ (h 103 (4 + 6 * y + x)) = 1 ∧ ¬ 6 * y + x = (h 90 29)) := f14.2.2 (by omega)
        clear f14
        refine ov_blk (ls2 := [(0, ov_r 90), (1, ov_i x), (2, ov_i y), (3, ov_i s), (4, ov_i (Int.tmod s (h 96 9))), (5, ov_i ((1200 * ((6 * y) + x)) + (Int.tmod s (h 96 9))))]) (st2 := [ov_r 90, ov_i ((6 * y) + x), ov_i (Int.tmod s (h 96 9)), ov_i y, ov_i x, ov_r 90]) (pc2 := 83) b_272_71_10 rfl rfl ?_
        refine ov_getf (v := ov_i (h 90 29)) d_272_83 fl_Mo_119 (zb_90 I) (zs_90 I) rfl ?_
        have g17 := rg_90_29 I
        refine ov_icne (tgt := 99) d_272_86 (by decide) (by omega) (by omega) (fun c18 => ?_) (fun c18 => ?_)
        · skip
          refine ov_blk (ls2 := [(0, ov_r 90), (1, ov_i x), (2, ov_i y), (3, ov_i s), (4, ov_i (Int.tmod s (h 96 9))), (5, ov_i ((1200 * ((6 * y) + x)) + (Int.tmod s (h 96 9))))]) (st2 := [ov_i (Int.tmod s (h 96 9)), ov_i (Int.tmod s (h 96 9)), ov_i y, ov_i x, ov_r 90]) (pc2 := 101) b_272_99_1 rfl rfl ?_
          refine ov_cV (as := [ov_i x, ov_i y, ov_i (Int.tmod s (h 96 9)), ov_i (Int.tmod s (h 96 9))]) (st := []) (d2 := d - 1) d_272_101 lk_Mo_368 rfl (Nat.le_of_ble_eq_true rfl) (c := 1) (zb_90 I) (zs_90 I) ⟨by decide, rfl⟩ (by omega) (c_Mo_worthSeen_90 go wt sf sm k HV (d - 1) (by omega) U I x y (Int.tmod s (h 96 9)) (Int.tmod s (h 96 9)) (by omega) (by omega) (by omega) (by omega) (by omega) (by show x < (h 96 0) ∧ y < (h 96 1); omega) (by omega) (by show 0 ≤ (Int.tmod s (h 96 9)) ∧ (Int.tmod s (h 96 9)) < (h 96 9); omega) (by omega) (by show (h 90 26) = go; omega) (by show (h 90 29) = wt; omega) (by show (h 90 30) = sf; omega) (by show (h 90 25) = sm; omega) (by show 0 ≤ go ∧ go ≤ 3 + (h 96 8); omega) W CD MI) ?_
          rintro _ z35 h36 ⟨v20, rfl, I37, f19, e21, e22, e23, e24, e25, e26, e27, e28, e29, e30, e31, e32, y33, y34⟩
          have E38 : h36 92 = h 92 := e21
          have E39 : h36 93 = h 93 := e22
          have E40 : h36 94 = h 94 := e23
          have E41 : h36 95 = h 95 := e24
          have E42 : h36 96 = h 96 := e25
          have E43 : h36 97 = h 97 := e26
          have E44 : h36 98 = h 98 := e27
          have E45 : h36 99 = h 99 := e28
          have E46 : h36 100 = h 100 := e29
          have E47 : h36 103 = h 103 := e30
          have E48 : h36 109 = h 109 := e31
          have E49 : h36 114 = h 114 := e32
          show ov_R u d ov_m272 104 [(0, ov_r 90), (1, ov_i x), (2, ov_i y), (3, ov_i s), (4, ov_i (Int.tmod s (h 96 9))), (5, ov_i ((1200 * ((6 * y) + x)) + (Int.tmod s (h 96 9))))] [ov_i v20] z35 h36 (P_Mo_worthFrom_90 F z h go wt sf sm x y s)
          have f50 : (h36 90 2) = (h 90 2) ∧ (h36 90 7) = (h 90 7) ∧ (h36 90 8) = (h 90 8) ∧ (h36 90 13) = (h 90 13) ∧ (h36 90 20) = (h 90 20) ∧ (h36 90 22) = (h 90 22) ∧ (h36 90 25) = (h 90 25) ∧ (h36 90 26) = (h 90 26) ∧ (h36 90 28) = (h 90 28) ∧ (h36 90 29) = (h 90 29) ∧ (h36 90 30) = (h 90 30) ∧ (h36 90 34) = (h 90 34) ∧ -1 ≤ v20 ∧ v20 ≤ 89000 * (13 - x - y) := f19
          clear f19
          have y33_ : ov_MI (h 96) (h 103) (h 97) (h 98) go wt sf sm (h36 105) (h36 106) := y33
          have y34_ : (0 ≤ v20 ↔ ov_gs (h 96) (h 97) (h 98) (ov_go (h 96) (h 103) (h 97) (h 98) go wt sf) go x y (Int.tmod s (h 96 9)) (Int.tmod s (h 96 9))) := y34
          have hv : 0 ≤ v20 ↔ ov_go (h 96) (h 103) (h 97) (h 98) go wt sf x y (Int.tmod s (h 96 9)) := y34_.trans (ov_go_s (by omega) (by omega) (by omega) (by omega))
          refine ov_blk (ls2 := [(0, ov_r 90), (1, ov_i x), (2, ov_i y), (3, ov_i s), (4, ov_i (Int.tmod s (h 96 9))), (5, ov_i ((1200 * ((6 * y) + x)) + (Int.tmod s (h 96 9)))), (6, ov_i v20)]) (st2 := [ov_r 90]) (pc2 := 107) b_272_104_2 rfl rfl ?_
          refine ov_getf (v := ov_r 105) d_272_107 fl_Mo_110 (zb_90 I37) (zs_90 I37) (congrArg ov_r (rg_90_23 I37)) ?_
          refine ov_blk (ls2 := [(0, ov_r 90), (1, ov_i x), (2, ov_i y), (3, ov_i s), (4, ov_i (Int.tmod s (h 96 9))), (5, ov_i ((1200 * ((6 * y) + x)) + (Int.tmod s (h 96 9)))), (6, ov_i v20)]) (st2 := [ov_i v20, ov_i ((1200 * ((6 * y) + x)) + (Int.tmod s (h 96 9))), ov_r 105]) (pc2 := 114) b_272_110_2 rfl rfl ?_
          refine ov_iast d_272_114 (zb_105 I37) (zs_105 I37) (by omega) ?_
          have I51 := ua_105 (k := ((1200 * ((6 * y) + x)) + (Int.tmod s (h 96 9)))) (x := v20) I37 (by omega)
          refine ov_blk (ls2 := [(0, ov_r 90), (1, ov_i x), (2, ov_i y), (3, ov_i s), (4, ov_i (Int.tmod s (h 96 9))), (5, ov_i ((1200 * ((6 * y) + x)) + (Int.tmod s (h 96 9)))), (6, ov_i v20)]) (st2 := [ov_r 90]) (pc2 := 116) b_272_115_1 rfl rfl ?_
          refine ov_getf (v := ov_r 106) d_272_116 fl_Mo_113 (zb_90 I51) (zs_90 I51) (congrArg ov_r (rg_90_24 I51)) ?_
          refine ov_blk (ls2 := [(0, ov_r 90), (1, ov_i x), (2, ov_i y), (3, ov_i s), (4, ov_i (Int.tmod s (h 96 9))), (5, ov_i ((1200 * ((6 * y) + x)) + (Int.tmod s (h 96 9)))), (6, ov_i v20)]) (st2 := [ov_r 90, ov_i ((1200 * ((6 * y) + x)) + (Int.tmod s (h 96 9))), ov_r 106]) (pc2 := 122) b_272_119_2 rfl rfl ?_
          refine ov_getf (v := ov_i (h36 90 25)) d_272_122 fl_Mo_359 (zb_90 I51) (zs_90 I51) rfl ?_
          have g52 := rg_90_25 I37
          refine ov_iast d_272_125 (zb_106 I51) (zs_106 I51) (by omega) ?_
          have I53 := ua_106 (k := ((1200 * ((6 * y) + x)) + (Int.tmod s (h 96 9)))) (x := (h36 90 25)) I51 (by omega)
          have mw := ov_MI_w (x := x) (y := y) (t := (Int.tmod s (h 96 9))) (v := v20) y33_ (by omega) (by omega) (by omega) (by omega) hv
          have e5 : (ov_up (ov_up h36 105 ((1200 * ((6 * y) + x)) + (Int.tmod s (h 96 9))) v20) 106 ((1200 * ((6 * y) + x)) + (Int.tmod s (h 96 9))) (h36 90 25)) 105 = ov_rs (h36 105) ((1200 * ((6 * y) + x)) + (Int.tmod s (h 96 9))) v20 := ov_up_row h36 105 ((1200 * ((6 * y) + x)) + (Int.tmod s (h 96 9))) v20
          have e6 : (ov_up (ov_up h36 105 ((1200 * ((6 * y) + x)) + (Int.tmod s (h 96 9))) v20) 106 ((1200 * ((6 * y) + x)) + (Int.tmod s (h 96 9))) (h36 90 25)) 106 = ov_rs (h36 106) ((1200 * ((6 * y) + x)) + (Int.tmod s (h 96 9))) (h36 90 25) := ov_up_row (ov_up h36 105 ((1200 * ((6 * y) + x)) + (Int.tmod s (h 96 9))) v20) 106 ((1200 * ((6 * y) + x)) + (Int.tmod s (h 96 9))) (h36 90 25)
          have mi9 : ov_MI (h 96) (h 103) (h 97) (h 98) go wt sf sm ((ov_up (ov_up h36 105 ((1200 * ((6 * y) + x)) + (Int.tmod s (h 96 9))) v20) 106 ((1200 * ((6 * y) + x)) + (Int.tmod s (h 96 9))) (h36 90 25)) 105) ((ov_up (ov_up h36 105 ((1200 * ((6 * y) + x)) + (Int.tmod s (h 96 9))) v20) 106 ((1200 * ((6 * y) + x)) + (Int.tmod s (h 96 9))) (h36 90 25)) 106) := by rw [e5, e6, show (h36 90 25) = sm by omega]; exact mw
          have er : ((ov_up h36 105 ((1200 * ((6 * y) + x)) + (Int.tmod s (h 96 9))) v20) 105 ((1200 * ((6 * y) + x)) + (Int.tmod s (h 96 9)))) = v20 := by show (ov_up h36 105 ((1200 * ((6 * y) + x)) + (Int.tmod s (h 96 9))) v20) 105 ((1200 * ((6 * y) + x)) + (Int.tmod s (h 96 9))) = _; rw [ov_up_row, ov_rs_eq]
          refine ov_blk (ls2 := [(0, ov_r 90), (1, ov_i x), (2, ov_i y), (3, ov_i s), (4, ov_i (Int.tmod s (h 96 9))), (5, ov_i ((1200 * ((6 * y) + x)) + (Int.tmod s (h 96 9)))), (6, ov_i v20)]) (st2 := [ov_r 90]) (pc2 := 127) b_272_126_1 rfl rfl ?_
          refine ov_getf (v := ov_r 105) d_272_127 fl_Mo_110 (zb_90 I53) (zs_90 I53) (congrArg ov_r (rg_90_23 I53)) ?_
          refine ov_blk (ls2 := [(0, ov_r 90), (1, ov_i x), (2, ov_i y), (3, ov_i s), (4, ov_i (Int.tmod s (h 96 9))), (5, ov_i ((1200 * ((6 * y) + x)) + (Int.tmod s (h 96 9)))), (6, ov_i v20)]) (st2 := [ov_i ((1200 * ((6 * y) + x)) + (Int.tmod s (h 96 9))), ov_r 105]) (pc2 := 132) b_272_130_1 rfl rfl ?_
          refine ov_iald d_272_132 (zb_105 I53) (zs_105 I53) (by omega) ?_
          show ov_R u d ov_m272 133 [(0, ov_r 90), (1, ov_i x), (2, ov_i y), (3, ov_i s), (4, ov_i (Int.tmod s (h 96 9))), (5, ov_i ((1200 * ((6 * y) + x)) + (Int.tmod s (h 96 9)))), (6, ov_i v20)] [ov_i ((ov_up h36 105 ((1200 * ((6 * y) + x)) + (Int.tmod s (h 96 9))) v20) 105 ((1200 * ((6 * y) + x)) + (Int.tmod s (h 96 9))))] z35 (ov_up (ov_up h36 105 ((1200 * ((6 * y) + x)) + (Int.tmod s (h 96 9))) v20) 106 ((1200 * ((6 * y) + x)) + (Int.tmod s (h 96 9))) (h36 90 25)) (P_Mo_worthFrom_90 F z h go wt sf sm x y s)
          exact ov_reti (st := []) d_272_133 rfl ⟨_, rfl, I53, (by show (h36 90 2) = (h 90 2) ∧ (h36 90 7) = (h 90 7) ∧ (h36 90 8) = (h 90 8) ∧ (h36 90 13) = (h 90 13) ∧ (h36 90 20) = (h 90 20) ∧ (h36 90 22) = (h 90 22) ∧ (h36 90 25) = (h 90 25) ∧ (h36 90 26) = (h 90 26) ∧ (h36 90 28) = (h 90 28) ∧ (h36 90 29) = (h 90 29) ∧ (h36 90 30) = (h 90 30) ∧ (h36 90 34) = (h 90 34) ∧ -1 ≤ ((ov_up h36 105 ((1200 * ((6 * y) + x)) + (Int.tmod s (h 96 9))) v20) 105 ((1200 * ((6 * y) + x)) + (Int.tmod s (h 96 9)))) ∧ ((ov_up h36 105 ((1200 * ((6 * y) + x)) + (Int.tmod s (h 96 9))) v20) 105 ((1200 * ((6 * y) + x)) + (Int.tmod s (h 96 9)))) ≤ 89000 * (13 - x - y); omega), E38, E39, E40, E41, E42, E43, E44, E45, E46, E47, E48, E49, mi9, (by rw [← gt2, er]; exact hv)⟩
        · skip
          refine ov_blk (ls2 := [(0, ov_r 90), (1, ov_i x), (2, ov_i y), (3, ov_i s), (4, ov_i (Int.tmod s (h 96 9))), (5, ov_i ((1200 * ((6 * y) + x)) + (Int.tmod s (h 96 9))))]) (st2 := [ov_r 90, ov_i (Int.tmod s (h 96 9)), ov_i (Int.tmod s (h 96 9)), ov_i y, ov_i x, ov_r 90]) (pc2 := 92) b_272_89_2 rfl rfl ?_
          refine ov_getf (v := ov_i (h 90 30)) d_272_92 fl_Mo_356 (zb_90 I) (zs_90 I) rfl ?_
          have g54 := rg_90_30 I
          refine ov_blk (ls2 := [(0, ov_r 90), (1, ov_i x), (2, ov_i y), (3, ov_i s), (4, ov_i (Int.tmod s (h 96 9))), (5, ov_i ((1200 * ((6 * y) + x)) + (Int.tmod s (h 96 9))))]) (st2 := [ov_i ((Int.tmod s (h 96 9)) + (h 90 30)), ov_i (Int.tmod s (h 96 9)), ov_i y, ov_i x, ov_r 90]) (pc2 := 96) b_272_95_1 rfl rfl ?_
          refine ov_goto (tgt := 101) d_272_96 (by decide) ?_
          refine ov_cV (as := [ov_i x, ov_i y, ov_i (Int.tmod s (h 96 9)), ov_i ((Int.tmod s (h 96 9)) + (h 90 30))]) (st := []) (d2 := d - 1) d_272_101 lk_Mo_368 rfl (Nat.le_of_ble_eq_true rfl) (c := 1) (zb_90 I) (zs_90 I) ⟨by decide, rfl⟩ (by omega) (c_Mo_worthSeen_90 go wt sf sm k HV (d - 1) (by omega) U I x y (Int.tmod s (h 96 9)) ((Int.tmod s (h 96 9)) + (h 90 30)) (by omega) (by omega) (by omega) (by omega) (by omega) (by show x < (h 96 0) ∧ y < (h 96 1); omega) (by omega) (by show 0 ≤ (Int.tmod s (h 96 9)) ∧ (Int.tmod s (h 96 9)) < (h 96 9); omega) (by omega) (by show (h 90 26) = go; omega) (by show (h 90 29) = wt; omega) (by show (h 90 30) = sf; omega) (by show (h 90 25) = sm; omega) (by show 0 ≤ go ∧ go ≤ 3 + (h 96 8); omega) W CD MI) ?_
          rintro _ z71 h72 ⟨v56, rfl, I73, f55, e57, e58, e59, e60, e61, e62, e63, e64, e65, e66, e67, e68, y69, y70⟩
          have E74 : h72 92 = h 92 := e57
          have E75 : h72 93 = h 93 := e58
          have E76 : h72 94 = h 94 := e59
          have E77 : h72 95 = h 95 := e60
          have E78 : h72 96 = h 96 := e61
          have E79 : h72 97 = h 97 := e62
          have E80 : h72 98 = h 98 := e63
          have E81 : h72 99 = h 99 := e64
          have E82 : h72 100 = h 100 := e65
          have E83 : h72 103 = h 103 := e66
          have E84 : h72 109 = h 109 := e67
          have E85 : h72 114 = h 114 := e68
          show ov_R u d ov_m272 104 [(0, ov_r 90), (1, ov_i x), (2, ov_i y), (3, ov_i s), (4, ov_i (Int.tmod s (h 96 9))), (5, ov_i ((1200 * ((6 * y) + x)) + (Int.tmod s (h 96 9))))] [ov_i v56] z71 h72 (P_Mo_worthFrom_90 F z h go wt sf sm x y s)
          have f86 : (h72 90 2) = (h 90 2) ∧ (h72 90 7) = (h 90 7) ∧ (h72 90 8) = (h 90 8) ∧ (h72 90 13) = (h 90 13) ∧ (h72 90 20) = (h 90 20) ∧ (h72 90 22) = (h 90 22) ∧ (h72 90 25) = (h 90 25) ∧ (h72 90 26) = (h 90 26) ∧ (h72 90 28) = (h 90 28) ∧ (h72 90 29) = (h 90 29) ∧ (h72 90 30) = (h 90 30) ∧ (h72 90 34) = (h 90 34) ∧ -1 ≤ v56 ∧ v56 ≤ 89000 * (13 - x - y) := f55
          clear f55
          have y69_ : ov_MI (h 96) (h 103) (h 97) (h 98) go wt sf sm (h72 105) (h72 106) := y69
          have y70_ : (0 ≤ v56 ↔ ov_gs (h 96) (h 97) (h 98) (ov_go (h 96) (h 103) (h 97) (h 98) go wt sf) go x y (Int.tmod s (h 96 9)) ((Int.tmod s (h 96 9)) + (h 90 30))) := y70
          have hv : 0 ≤ v56 ↔ ov_go (h 96) (h 103) (h 97) (h 98) go wt sf x y (Int.tmod s (h 96 9)) := y70_.trans (ov_go_s (by omega) (by omega) (by omega) (by omega))
          refine ov_blk (ls2 := [(0, ov_r 90), (1, ov_i x), (2, ov_i y), (3, ov_i s), (4, ov_i (Int.tmod s (h 96 9))), (5, ov_i ((1200 * ((6 * y) + x)) + (Int.tmod s (h 96 9)))), (6, ov_i v56)]) (st2 := [ov_r 90]) (pc2 := 107) b_272_104_2 rfl rfl ?_
          refine ov_getf (v := ov_r 105) d_272_107 fl_Mo_110 (zb_90 I73) (zs_90 I73) (congrArg ov_r (rg_90_23 I73)) ?_
          refine ov_blk (ls2 := [(0, ov_r 90), (1, ov_i x), (2, ov_i y), (3, ov_i s), (4, ov_i (Int.tmod s (h 96 9))), (5, ov_i ((1200 * ((6 * y) + x)) + (Int.tmod s (h 96 9)))), (6, ov_i v56)]) (st2 := [ov_i v56, ov_i ((1200 * ((6 * y) + x)) + (Int.tmod s (h 96 9))), ov_r 105]) (pc2 := 114) b_272_110_2 rfl rfl ?_
          refine ov_iast d_272_114 (zb_105 I73) (zs_105 I73) (by omega) ?_
          have I87 := ua_105 (k := ((1200 * ((6 * y) + x)) + (Int.tmod s (h 96 9)))) (x := v56) I73 (by omega)
          refine ov_blk (ls2 := [(0, ov_r 90), (1, ov_i x), (2, ov_i y), (3, ov_i s), (4, ov_i (Int.tmod s (h 96 9))), (5, ov_i ((1200 * ((6 * y) + x)) + (Int.tmod s (h 96 9)))), (6, ov_i v56)]) (st2 := [ov_r 90]) (pc2 := 116) b_272_115_1 rfl rfl ?_
          refine ov_getf (v := ov_r 106) d_272_116 fl_Mo_113 (zb_90 I87) (zs_90 I87) (congrArg ov_r (rg_90_24 I87)) ?_
          refine ov_blk (ls2 := [(0, ov_r 90), (1, ov_i x), (2, ov_i y), (3, ov_i s), (4, ov_i (Int.tmod s (h 96 9))), (5, ov_i ((1200 * ((6 * y) + x)) + (Int.tmod s (h 96 9)))), (6, ov_i v56)]) (st2 := [ov_r 90, ov_i ((1200 * ((6 * y) + x)) + (Int.tmod s (h 96 9))), ov_r 106]) (pc2 := 122) b_272_119_2 rfl rfl ?_
          refine ov_getf (v := ov_i (h72 90 25)) d_272_122 fl_Mo_359 (zb_90 I87) (zs_90 I87) rfl ?_
          have g88 := rg_90_25 I73
          refine ov_iast d_272_125 (zb_106 I87) (zs_106 I87) (by omega) ?_
          have I89 := ua_106 (k := ((1200 * ((6 * y) + x)) + (Int.tmod s (h 96 9)))) (x := (h72 90 25)) I87 (by omega)
          have mw := ov_MI_w (x := x) (y := y) (t := (Int.tmod s (h 96 9))) (v := v56) y69_ (by omega) (by omega) (by omega) (by omega) hv
          have e5 : (ov_up (ov_up h72 105 ((1200 * ((6 * y) + x)) + (Int.tmod s (h 96 9))) v56) 106 ((1200 * ((6 * y) + x)) + (Int.tmod s (h 96 9))) (h72 90 25)) 105 = ov_rs (h72 105) ((1200 * ((6 * y) + x)) + (Int.tmod s (h 96 9))) v56 := ov_up_row h72 105 ((1200 * ((6 * y) + x)) + (Int.tmod s (h 96 9))) v56
          have e6 : (ov_up (ov_up h72 105 ((1200 * ((6 * y) + x)) + (Int.tmod s (h 96 9))) v56) 106 ((1200 * ((6 * y) + x)) + (Int.tmod s (h 96 9))) (h72 90 25)) 106 = ov_rs (h72 106) ((1200 * ((6 * y) + x)) + (Int.tmod s (h 96 9))) (h72 90 25) := ov_up_row (ov_up h72 105 ((1200 * ((6 * y) + x)) + (Int.tmod s (h 96 9))) v56) 106 ((1200 * ((6 * y) + x)) + (Int.tmod s (h 96 9))) (h72 90 25)
          have mi9 : ov_MI (h 96) (h 103) (h 97) (h 98) go wt sf sm ((ov_up (ov_up h72 105 ((1200 * ((6 * y) + x)) + (Int.tmod s (h 96 9))) v56) 106 ((1200 * ((6 * y) + x)) + (Int.tmod s (h 96 9))) (h72 90 25)) 105) ((ov_up (ov_up h72 105 ((1200 * ((6 * y) + x)) + (Int.tmod s (h 96 9))) v56) 106 ((1200 * ((6 * y) + x)) + (Int.tmod s (h 96 9))) (h72 90 25)) 106) := by rw [e5, e6, show (h72 90 25) = sm by omega]; exact mw
          have er : ((ov_up h72 105 ((1200 * ((6 * y) + x)) + (Int.tmod s (h 96 9))) v56) 105 ((1200 * ((6 * y) + x)) + (Int.tmod s (h 96 9)))) = v56 := by show (ov_up h72 105 ((1200 * ((6 * y) + x)) + (Int.tmod s (h 96 9))) v56) 105 ((1200 * ((6 * y) + x)) + (Int.tmod s (h 96 9))) = _; rw [ov_up_row, ov_rs_eq]
          refine ov_blk (ls2 := [(0, ov_r 90), (1, ov_i x), (2, ov_i y), (3, ov_i s), (4, ov_i (Int.tmod s (h 96 9))), (5, ov_i ((1200 * ((6 * y) + x)) + (Int.tmod s (h 96 9)))), (6, ov_i v56)]) (st2 := [ov_r 90]) (pc2 := 127) b_272_126_1 rfl rfl ?_
          refine ov_getf (v := ov_r 105) d_272_127 fl_Mo_110 (zb_90 I89) (zs_90 I89) (congrArg ov_r (rg_90_23 I89)) ?_
          refine ov_blk (ls2 := [(0, ov_r 90), (1, ov_i x), (2, ov_i y), (3, ov_i s), (4, ov_i (Int.tmod s (h 96 9))), (5, ov_i ((1200 * ((6 * y) + x)) + (Int.tmod s (h 96 9)))), (6, ov_i v56)]) (st2 := [ov_i ((1200 * ((6 * y) + x)) + (Int.tmod s (h 96 9))), ov_r 105]) (pc2 := 132) b_272_130_1 rfl rfl ?_
          refine ov_iald d_272_132 (zb_105 I89) (zs_105 I89) (by omega) ?_
          show ov_R u d ov_m272 133 [(0, ov_r 90), (1, ov_i x), (2, ov_i y), (3, ov_i s), (4, ov_i (Int.tmod s (h 96 9))), (5, ov_i ((1200 * ((6 * y) + x)) + (Int.tmod s (h 96 9)))), (6, ov_i v56)] [ov_i ((ov_up h72 105 ((1200 * ((6 * y) + x)) + (Int.tmod s (h 96 9))) v56) 105 ((1200 * ((6 * y) + x)) + (Int.tmod s (h 96 9))))] z71 (ov_up (ov_up h72 105 ((1200 * ((6 * y) + x)) + (Int.tmod s (h 96 9))) v56) 106 ((1200 * ((6 * y) + x)) + (Int.tmod s (h 96 9))) (h72 90 25)) (P_Mo_worthFrom_90 F z h go wt sf sm x y s)
          exact ov_reti (st := []) d_272_133 rfl ⟨_, rfl, I89, (by show (h72 90 2) = (h 90 2) ∧ (h72 90 7) = (h 90 7) ∧ (h72 90 8) = (h 90 8) ∧ (h72 90 13) = (h 90 13) ∧ (h72 90 20) = (h 90 20) ∧ (h72 90 22) = (h 90 22) ∧ (h72 90 25) = (h 90 25) ∧ (h72 90 26) = (h 90 26) ∧ (h72 90 28) = (h 90 28) ∧ (h72 90 29) = (h 90 29) ∧ (h72 90 30) = (h 90 30) ∧ (h72 90 34) = (h 90 34) ∧ -1 ≤ ((ov_up h72 105 ((1200 * ((6 * y) + x)) + (Int.tmod s (h 96 9))) v56) 105 ((1200 * ((6 * y) + x)) + (Int.tmod s (h 96 9)))) ∧ ((ov_up h72 105 ((1200 * ((6 * y) + x)) + (Int.tmod s (h 96 9))) v56) 105 ((1200 * ((6 * y) + x)) + (Int.tmod s (h 96 9)))) ≤ 89000 * (13 - x - y); omega), E74, E75, E76, E77, E78, E79, E80, E81, E82, E83, E84, E85, mi9, (by rw [← gt2, er]; exact hv)⟩
      · skip
        have f14_ : v13 = 1 := by omega
        have f90 : ((h 96 (10 + 4 * (6 * y + x))) = 2 ∧ ¬ (h 103 (4 + 6 * y + x)) = 1 ∧ ¬ 6 * y + x = (h 90 29)) := f14.2.1 (by omega)
        clear f14
        refine ov_blk (ls2 := [(0, ov_r 90), (1, ov_i x), (2, ov_i y), (3, ov_i s), (4, ov_i (Int.tmod s (h 96 9))), (5, ov_i ((1200 * ((6 * y) + x)) + (Int.tmod s (h 96 9))))]) (st2 := [ov_i (Int.tmod s (h 96 9)), ov_i y, ov_i x, ov_r 90]) (pc2 := 65) b_272_60_4 rfl rfl ?_
        refine ov_cV (as := [ov_i x, ov_i y, ov_i (Int.tmod s (h 96 9))]) (st := []) (d2 := d - 1) d_272_65 lk_Mo_365 rfl (Nat.le_of_ble_eq_true rfl) (c := 1) (zb_90 I) (zs_90 I) ⟨by decide, rfl⟩ (by omega) (c_Mo_worthHidden_90 go wt sf sm k HV (d - 1) (by omega) U I x y (Int.tmod s (h 96 9)) (by omega) (by omega) (by omega) (by omega) (by show x < (h 96 0) ∧ y < (h 96 1); omega) (by omega) (by show 0 ≤ (Int.tmod s (h 96 9)) ∧ (Int.tmod s (h 96 9)) < (h 96 9); omega) (by show (h 96 (10 + 4 * (6 * y + x))) = 2; omega) (by show (h 90 26) = go; omega) (by show (h 90 29) = wt; omega) (by show (h 90 30) = sf; omega) (by show (h 90 25) = sm; omega) (by show 0 ≤ go ∧ go ≤ 3 + (h 96 8); omega) W CD MI) ?_
        rintro _ z107 h108 ⟨v92, rfl, I109, f91, e93, e94, e95, e96, e97, e98, e99, e100, e101, e102, e103, e104, y105, y106⟩
        have E110 : h108 92 = h 92 := e93
        have E111 : h108 93 = h 93 := e94
        have E112 : h108 94 = h 94 := e95
        have E113 : h108 95 = h 95 := e96
        have E114 : h108 96 = h 96 := e97
        have E115 : h108 97 = h 97 := e98
        have E116 : h108 98 = h 98 := e99
        have E117 : h108 99 = h 99 := e100
        have E118 : h108 100 = h 100 := e101
        have E119 : h108 103 = h 103 := e102
        have E120 : h108 109 = h 109 := e103
        have E121 : h108 114 = h 114 := e104
        show ov_R u d ov_m272 68 [(0, ov_r 90), (1, ov_i x), (2, ov_i y), (3, ov_i s), (4, ov_i (Int.tmod s (h 96 9))), (5, ov_i ((1200 * ((6 * y) + x)) + (Int.tmod s (h 96 9))))] [ov_i v92] z107 h108 (P_Mo_worthFrom_90 F z h go wt sf sm x y s)
        have f122 : (h108 90 2) = (h 90 2) ∧ (h108 90 7) = (h 90 7) ∧ (h108 90 8) = (h 90 8) ∧ (h108 90 13) = (h 90 13) ∧ (h108 90 20) = (h 90 20) ∧ (h108 90 22) = (h 90 22) ∧ (h108 90 25) = (h 90 25) ∧ (h108 90 26) = (h 90 26) ∧ (h108 90 28) = (h 90 28) ∧ (h108 90 29) = (h 90 29) ∧ (h108 90 30) = (h 90 30) ∧ (h108 90 34) = (h 90 34) ∧ -1 ≤ v92 ∧ v92 ≤ 89000 * (13 - x - y) := f91
        clear f91
        have y105_ : ov_MI (h 96) (h 103) (h 97) (h 98) go wt sf sm (h108 105) (h108 106) := y105
        have y106_ : (0 ≤ v92 ↔ ∀ q : Int, 0 ≤ q → q < (h 96) (10 + 4 * (6 * y + x) + 1) → ov_gs (h 96) (h 97) (h 98) (ov_go (h 96) (h 103) (h 97) (h 98) go wt sf) go x y (Int.tmod s (h 96 9)) q) := y106
        refine ov_goto (tgt := 104) d_272_68 (by decide) ?_
        have hv : 0 ≤ v92 ↔ ov_go (h 96) (h 103) (h 97) (h 98) go wt sf x y (Int.tmod s (h 96 9)) := y106_.trans (ov_go_h (by omega) (by omega) (by omega))
        refine ov_blk (ls2 := [(0, ov_r 90), (1, ov_i x), (2, ov_i y), (3, ov_i s), (4, ov_i (Int.tmod s (h 96 9))), (5, ov_i ((1200 * ((6 * y) + x)) + (Int.tmod s (h 96 9)))), (6, ov_i v92)]) (st2 := [ov_r 90]) (pc2 := 107) b_272_104_2 rfl rfl ?_
        refine ov_getf (v := ov_r 105) d_272_107 fl_Mo_110 (zb_90 I109) (zs_90 I109) (congrArg ov_r (rg_90_23 I109)) ?_
        refine ov_blk (ls2 := [(0, ov_r 90), (1, ov_i x), (2, ov_i y), (3, ov_i s), (4, ov_i (Int.tmod s (h 96 9))), (5, ov_i ((1200 * ((6 * y) + x)) + (Int.tmod s (h 96 9)))), (6, ov_i v92)]) (st2 := [ov_i v92, ov_i ((1200 * ((6 * y) + x)) + (Int.tmod s (h 96 9))), ov_r 105]) (pc2 := 114) b_272_110_2 rfl rfl ?_
        refine ov_iast d_272_114 (zb_105 I109) (zs_105 I109) (by omega) ?_
        have I123 := ua_105 (k := ((1200 * ((6 * y) + x)) + (Int.tmod s (h 96 9)))) (x := v92) I109 (by omega)
        refine ov_blk (ls2 := [(0, ov_r 90), (1, ov_i x), (2, ov_i y), (3, ov_i s), (4, ov_i (Int.tmod s (h 96 9))), (5, ov_i ((1200 * ((6 * y) + x)) + (Int.tmod s (h 96 9)))), (6, ov_i v92)]) (st2 := [ov_r 90]) (pc2 := 116) b_272_115_1 rfl rfl ?_
        refine ov_getf (v := ov_r 106) d_272_116 fl_Mo_113 (zb_90 I123) (zs_90 I123) (congrArg ov_r (rg_90_24 I123)) ?_
        refine ov_blk (ls2 := [(0, ov_r 90), (1, ov_i x), (2, ov_i y), (3, ov_i s), (4, ov_i (Int.tmod s (h 96 9))), (5, ov_i ((1200 * ((6 * y) + x)) + (Int.tmod s (h 96 9)))), (6, ov_i v92)]) (st2 := [ov_r 90, ov_i ((1200 * ((6 * y) + x)) + (Int.tmod s (h 96 9))), ov_r 106]) (pc2 := 122) b_272_119_2 rfl rfl ?_
        refine ov_getf (v := ov_i (h108 90 25)) d_272_122 fl_Mo_359 (zb_90 I123) (zs_90 I123) rfl ?_
        have g124 := rg_90_25 I109
        refine ov_iast d_272_125 (zb_106 I123) (zs_106 I123) (by omega) ?_
        have I125 := ua_106 (k := ((1200 * ((6 * y) + x)) + (Int.tmod s (h 96 9)))) (x := (h108 90 25)) I123 (by omega)
        have mw := ov_MI_w (x := x) (y := y) (t := (Int.tmod s (h 96 9))) (v := v92) y105_ (by omega) (by omega) (by omega) (by omega) hv
        have e5 : (ov_up (ov_up h108 105 ((1200 * ((6 * y) + x)) + (Int.tmod s (h 96 9))) v92) 106 ((1200 * ((6 * y) + x)) + (Int.tmod s (h 96 9))) (h108 90 25)) 105 = ov_rs (h108 105) ((1200 * ((6 * y) + x)) + (Int.tmod s (h 96 9))) v92 := ov_up_row h108 105 ((1200 * ((6 * y) + x)) + (Int.tmod s (h 96 9))) v92
        have e6 : (ov_up (ov_up h108 105 ((1200 * ((6 * y) + x)) + (Int.tmod s (h 96 9))) v92) 106 ((1200 * ((6 * y) + x)) + (Int.tmod s (h 96 9))) (h108 90 25)) 106 = ov_rs (h108 106) ((1200 * ((6 * y) + x)) + (Int.tmod s (h 96 9))) (h108 90 25) := ov_up_row (ov_up h108 105 ((1200 * ((6 * y) + x)) + (Int.tmod s (h 96 9))) v92) 106 ((1200 * ((6 * y) + x)) + (Int.tmod s (h 96 9))) (h108 90 25)
        have mi9 : ov_MI (h 96) (h 103) (h 97) (h 98) go wt sf sm ((ov_up (ov_up h108 105 ((1200 * ((6 * y) + x)) + (Int.tmod s (h 96 9))) v92) 106 ((1200 * ((6 * y) + x)) + (Int.tmod s (h 96 9))) (h108 90 25)) 105) ((ov_up (ov_up h108 105 ((1200 * ((6 * y) + x)) + (Int.tmod s (h 96 9))) v92) 106 ((1200 * ((6 * y) + x)) + (Int.tmod s (h 96 9))) (h108 90 25)) 106) := by rw [e5, e6, show (h108 90 25) = sm by omega]; exact mw
        have er : ((ov_up h108 105 ((1200 * ((6 * y) + x)) + (Int.tmod s (h 96 9))) v92) 105 ((1200 * ((6 * y) + x)) + (Int.tmod s (h 96 9)))) = v92 := by show (ov_up h108 105 ((1200 * ((6 * y) + x)) + (Int.tmod s (h 96 9))) v92) 105 ((1200 * ((6 * y) + x)) + (Int.tmod s (h 96 9))) = _; rw [ov_up_row, ov_rs_eq]
        refine ov_blk (ls2 := [(0, ov_r 90), (1, ov_i x), (2, ov_i y), (3, ov_i s), (4, ov_i (Int.tmod s (h 96 9))), (5, ov_i ((1200 * ((6 * y) + x)) + (Int.tmod s (h 96 9)))), (6, ov_i v92)]) (st2 := [ov_r 90]) (pc2 := 127) b_272_126_1 rfl rfl ?_
        refine ov_getf (v := ov_r 105) d_272_127 fl_Mo_110 (zb_90 I125) (zs_90 I125) (congrArg ov_r (rg_90_23 I125)) ?_
        refine ov_blk (ls2 := [(0, ov_r 90), (1, ov_i x), (2, ov_i y), (3, ov_i s), (4, ov_i (Int.tmod s (h 96 9))), (5, ov_i ((1200 * ((6 * y) + x)) + (Int.tmod s (h 96 9)))), (6, ov_i v92)]) (st2 := [ov_i ((1200 * ((6 * y) + x)) + (Int.tmod s (h 96 9))), ov_r 105]) (pc2 := 132) b_272_130_1 rfl rfl ?_
        refine ov_iald d_272_132 (zb_105 I125) (zs_105 I125) (by omega) ?_
        show ov_R u d ov_m272 133 [(0, ov_r 90), (1, ov_i x), (2, ov_i y), (3, ov_i s), (4, ov_i (Int.tmod s (h 96 9))), (5, ov_i ((1200 * ((6 * y) + x)) + (Int.tmod s (h 96 9)))), (6, ov_i v92)] [ov_i ((ov_up h108 105 ((1200 * ((6 * y) + x)) + (Int.tmod s (h 96 9))) v92) 105 ((1200 * ((6 * y) + x)) + (Int.tmod s (h 96 9))))] z107 (ov_up (ov_up h108 105 ((1200 * ((6 * y) + x)) + (Int.tmod s (h 96 9))) v92) 106 ((1200 * ((6 * y) + x)) + (Int.tmod s (h 96 9))) (h108 90 25)) (P_Mo_worthFrom_90 F z h go wt sf sm x y s)
        exact ov_reti (st := []) d_272_133 rfl ⟨_, rfl, I125, (by show (h108 90 2) = (h 90 2) ∧ (h108 90 7) = (h 90 7) ∧ (h108 90 8) = (h 90 8) ∧ (h108 90 13) = (h 90 13) ∧ (h108 90 20) = (h 90 20) ∧ (h108 90 22) = (h 90 22) ∧ (h108 90 25) = (h 90 25) ∧ (h108 90 26) = (h 90 26) ∧ (h108 90 28) = (h 90 28) ∧ (h108 90 29) = (h 90 29) ∧ (h108 90 30) = (h 90 30) ∧ (h108 90 34) = (h 90 34) ∧ -1 ≤ ((ov_up h108 105 ((1200 * ((6 * y) + x)) + (Int.tmod s (h 96 9))) v92) 105 ((1200 * ((6 * y) + x)) + (Int.tmod s (h 96 9)))) ∧ ((ov_up h108 105 ((1200 * ((6 * y) + x)) + (Int.tmod s (h 96 9))) v92) 105 ((1200 * ((6 * y) + x)) + (Int.tmod s (h 96 9)))) ≤ 89000 * (13 - x - y); omega), E110, E111, E112, E113, E114, E115, E116, E117, E118, E119, E120, E121, mi9, (by rw [← gt2, er]; exact hv)⟩
  · skip
    have f3_ : v2 = 1 := by omega
    have f126 : x = (h 96 0) - 1 ∧ y = (h 96 1) - 1 := f3.2.1 (by omega)
    clear f3
    refine ov_blk (ls2 := [(0, ov_r 90), (1, ov_i x), (2, ov_i y), (3, ov_i s)]) (st2 := [ov_i 0]) (pc2 := 10) b_272_9_1 rfl rfl ?_
    exact ov_reti (st := []) d_272_10 rfl ⟨_, rfl, I, ⟨rfl, rfl, rfl, rfl, rfl, rfl, rfl, rfl, rfl, rfl, rfl, rfl, (by show -1 ≤ 0 ∧ 0 ≤ 89000 * (13 - x - y); omega)⟩, rfl, rfl, rfl, rfl, rfl, rfl, rfl, rfl, rfl, rfl, rfl, rfl, MI, (iff_of_true (by decide) (ov_go_home (by omega) (by omega)))⟩
theorem c_Mo_worthFrom_90_all {u : ov_U} {F : ov_H × ov_Z} (go : Int) (wt : Int) (sf : Int) (sm : Int) (k : Nat) : ∀ {z : ov_Z} {h : ov_H} (d : Nat) (hd : (10 + 5 * k + 4) ≤ d) (U : ov_cap u) (I : ov_N F z h) (x : Int) (y : Int) (s : Int) (g_x : ov_g x) (g_y : ov_g y) (g_s : ov_g s) (p0 : 0 ≤ x ∧ x ≤ 5 ∧ 0 ≤ y ∧ y ≤ 8) (p1 : x < (h 96 0) ∧ y < (h 96 1)) (p2 : x + y + (k : Int) = 13) (p3 : 0 ≤ s ∧ s ≤ 2000000) (p4 : (h 90 26) = go) (p5 : (h 90 29) = wt) (p6 : (h 90 30) = sf) (p7 : (h 90 25) = sm) (p8 : 0 ≤ go ∧ go ≤ 3 + (h 96 8)) (W : ov_WT (h 96)) (CD : ov_CD (h 96) (h 97) (h 98)) (MI : ov_MI (h 96) (h 103) (h 97) (h 98) go wt sf sm (h 105) (h 106)), ov_T u d ov_m272 [ov_r 90, ov_i x, ov_i y, ov_i s] z h (P_Mo_worthFrom_90 F z h go wt sf sm x y s) := by
  induction k using Nat.strongRecOn with
  | ind k ih => exact fun {z} {h} => @c_Mo_worthFrom_90 u F go wt sf sm k (fun k' hk => @ih k' hk) z h
theorem c_Mo_worthHidden_90_all {u : ov_U} {F : ov_H × ov_Z} (go : Int) (wt : Int) (sf : Int) (sm : Int) (k : Nat) : ∀ {z : ov_Z} {h : ov_H} (d : Nat) (hd : (10 + 5 * k + 3) ≤ d) (U : ov_cap u) (I : ov_N F z h) (x : Int) (y : Int) (t : Int) (g_x : ov_g x) (g_y : ov_g y) (g_t : ov_g t) (p0 : 0 ≤ x ∧ x ≤ 5 ∧ 0 ≤ y ∧ y ≤ 8) (p1 : x < (h 96 0) ∧ y < (h 96 1)) (p2 : x + y + (k : Int) = 13) (p3 : 0 ≤ t ∧ t < (h 96 9)) (p4 : (h 96 (10 + 4 * (6 * y + x))) = 2) (p5 : (h 90 26) = go) (p6 : (h 90 29) = wt) (p7 : (h 90 30) = sf) (p8 : (h 90 25) = sm) (p9 : 0 ≤ go ∧ go ≤ 3 + (h 96 8)) (W : ov_WT (h 96)) (CD : ov_CD (h 96) (h 97) (h 98)) (MI : ov_MI (h 96) (h 103) (h 97) (h 98) go wt sf sm (h 105) (h 106)), ov_T u d ov_m274 [ov_r 90, ov_i x, ov_i y, ov_i t] z h (P_Mo_worthHidden_90 F z h go wt sf sm x y t) := fun {z} {h} => @c_Mo_worthHidden_90 u F go wt sf sm k (fun k' _ => @c_Mo_worthFrom_90_all u F go wt sf sm k') z h
theorem c_Mo_worthSeen_90_all {u : ov_U} {F : ov_H × ov_Z} (go : Int) (wt : Int) (sf : Int) (sm : Int) (k : Nat) : ∀ {z : ov_Z} {h : ov_H} (d : Nat) (hd : (10 + 5 * k + 2) ≤ d) (U : ov_cap u) (I : ov_N F z h) (x : Int) (y : Int) (t : Int) (sn : Int) (g_x : ov_g x) (g_y : ov_g y) (g_t : ov_g t) (g_sn : ov_g sn) (p0 : 0 ≤ x ∧ x ≤ 5 ∧ 0 ≤ y ∧ y ≤ 8) (p1 : x < (h 96 0) ∧ y < (h 96 1)) (p2 : x + y + (k : Int) = 13) (p3 : 0 ≤ t ∧ t < (h 96 9)) (p4 : 0 ≤ sn ∧ sn ≤ 3000) (p5 : (h 90 26) = go) (p6 : (h 90 29) = wt) (p7 : (h 90 30) = sf) (p8 : (h 90 25) = sm) (p9 : 0 ≤ go ∧ go ≤ 3 + (h 96 8)) (W : ov_WT (h 96)) (CD : ov_CD (h 96) (h 97) (h 98)) (MI : ov_MI (h 96) (h 103) (h 97) (h 98) go wt sf sm (h 105) (h 106)), ov_T u d ov_m275 [ov_r 90, ov_i x, ov_i y, ov_i t, ov_i sn] z h (P_Mo_worthSeen_90 F z h go wt sf sm x y t sn) := fun {z} {h} => @c_Mo_worthSeen_90 u F go wt sf sm k (fun k' _ => @c_Mo_worthFrom_90_all u F go wt sf sm k') z h
theorem c_Mo_worthBy_90_all {u : ov_U} {F : ov_H × ov_Z} (go : Int) (wt : Int) (sf : Int) (sm : Int) (k : Nat) : ∀ {z : ov_Z} {h : ov_H} (d : Nat) (hd : (10 + 5 * k + 0) ≤ d) (U : ov_cap u) (I : ov_N F z h) (x : Int) (y : Int) (way : Int) (t : Int) (sn : Int) (g_x : ov_g x) (g_y : ov_g y) (g_way : ov_g way) (g_t : ov_g t) (g_sn : ov_g sn) (p0 : 0 ≤ x ∧ x ≤ 5 ∧ 0 ≤ y ∧ y ≤ 8) (p1 : x < (h 96 0) ∧ y < (h 96 1)) (p2 : 0 ≤ way ∧ way ≤ 1) (p3 : x + y + (k : Int) = 13) (p4 : 0 ≤ t ∧ t < (h 96 9)) (p5 : 0 ≤ sn ∧ sn ≤ 3000) (p6 : ((way = 0 → x < (h 96 0) - 1) ∧ (¬ way = 0 → y < (h 96 1) - 1)) ∧ (((h 96 (10 + 4 * (6 * y + x))) = 1 ∨ (h 96 (10 + 4 * (6 * y + x))) = 2) → (way = 0 → 0 < (h 96 (10 + 4 * (6 * y + x) + 3))) ∧ (¬ way = 0 → (h 96 (10 + 4 * (6 * y + x) + 3)) < (h 96 (10 + 4 * (6 * y + x) + 1))))) (p7 : (h 90 26) = go) (p8 : (h 90 29) = wt) (p9 : (h 90 30) = sf) (p10 : (h 90 25) = sm) (p11 : 0 ≤ go ∧ go ≤ 3 + (h 96 8)) (W : ov_WT (h 96)) (CD : ov_CD (h 96) (h 97) (h 98)) (MI : ov_MI (h 96) (h 103) (h 97) (h 98) go wt sf sm (h 105) (h 106)), ov_T u d ov_m277 [ov_r 90, ov_i x, ov_i y, ov_i way, ov_i t, ov_i sn] z h (P_Mo_worthBy_90 F z h go wt sf sm x y way t sn) := fun {z} {h} => @c_Mo_worthBy_90 u F go wt sf sm k (fun k' _ => @c_Mo_worthFrom_90_all u F go wt sf sm k') z h
theorem c_Mo_wayOf_90_all {u : ov_U} {F : ov_H × ov_Z} (go : Int) (wt : Int) (sf : Int) (sm : Int) (k : Nat) : ∀ {z : ov_Z} {h : ov_H} (d : Nat) (hd : (10 + 5 * k + 1) ≤ d) (U : ov_cap u) (I : ov_N F z h) (x : Int) (y : Int) (t : Int) (sn : Int) (g_x : ov_g x) (g_y : ov_g y) (g_t : ov_g t) (g_sn : ov_g sn) (p0 : 0 ≤ x ∧ x ≤ 5 ∧ 0 ≤ y ∧ y ≤ 8) (p1 : x < (h 96 0) ∧ y < (h 96 1)) (p2 : x + y + (k : Int) = 13) (p3 : 0 ≤ t ∧ t < (h 96 9)) (p4 : 0 ≤ sn ∧ sn ≤ 3000) (p5 : (h 90 26) = go) (p6 : (h 90 29) = wt) (p7 : (h 90 30) = sf) (p8 : (h 90 25) = sm) (p9 : 0 ≤ go ∧ go ≤ 3 + (h 96 8)) (W : ov_WT (h 96)) (CD : ov_CD (h 96) (h 97) (h 98)) (MI : ov_MI (h 96) (h 103) (h 97) (h 98) go wt sf sm (h 105) (h 106)), ov_T u d ov_m276 [ov_r 90, ov_i x, ov_i y, ov_i t, ov_i sn] z h (P_Mo_wayOf_90 F z h go wt sf sm x y t sn) := fun {z} {h} => @c_Mo_wayOf_90 u F go wt sf sm k (fun k' _ => @c_Mo_worthFrom_90_all u F go wt sf sm k') z h

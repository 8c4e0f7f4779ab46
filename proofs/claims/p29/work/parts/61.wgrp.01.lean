abbrev P_Mo_worthFrom_90 (F : ov_H × ov_Z) (z : ov_Z) (h : ov_H) (go : Int) (wt : Int) (sf : Int) (sm : Int) (x : Int) (y : Int) (s : Int) : Option ov_V → ov_Z → ov_H → Prop := fun r0 z' h' => ∃ r : Int, r0 = some (ov_i r) ∧ ov_N F z' h' ∧ ((h' 90 2) = (h 90 2) ∧ (h' 90 7) = (h 90 7) ∧ (h' 90 8) = (h 90 8) ∧ (h' 90 13) = (h 90 13) ∧ (h' 90 20) = (h 90 20) ∧ (h' 90 22) = (h 90 22) ∧ (h' 90 25) = (h 90 25) ∧ (h' 90 26) = (h 90 26) ∧ (h' 90 28) = (h 90 28) ∧ (h' 90 29) = (h 90 29) ∧ (h' 90 30) = (h 90 30) ∧ (h' 90 34) = (h 90 34) ∧ -1 ≤ r ∧ r ≤ 89000 * (13 - x - y)) ∧ h' 91 = h 91 ∧ h' 92 = h 92 ∧ h' 93 = h 93 ∧ h' 94 = h 94 ∧ h' 95 = h 95 ∧ h' 96 = h 96 ∧ h' 97 = h 97 ∧ h' 98 = h 98 ∧ h' 99 = h 99 ∧ h' 100 = h 100 ∧ h' 103 = h 103 ∧ h' 104 = h 104 ∧ h' 109 = h 109 ∧ h' 114 = h 114 ∧ (ov_MI (h 96) (h 103) (h 97) (h 98) go wt sf sm (h' 105) (h' 106)) ∧ ((0 ≤ r ↔ ov_go (h 96) (h 103) (h 97) (h 98) go wt sf x y (s % (h 96 9))))
abbrev P_Mo_worthHidden_90 (F : ov_H × ov_Z) (z : ov_Z) (h : ov_H) (go : Int) (wt : Int) (sf : Int) (sm : Int) (x : Int) (y : Int) (t : Int) : Option ov_V → ov_Z → ov_H → Prop := fun r0 z' h' => ∃ r : Int, r0 = some (ov_i r) ∧ ov_N F z' h' ∧ ((h' 90 2) = (h 90 2) ∧ (h' 90 7) = (h 90 7) ∧ (h' 90 8) = (h 90 8) ∧ (h' 90 13) = (h 90 13) ∧ (h' 90 20) = (h 90 20) ∧ (h' 90 22) = (h 90 22) ∧ (h' 90 25) = (h 90 25) ∧ (h' 90 26) = (h 90 26) ∧ (h' 90 28) = (h 90 28) ∧ (h' 90 29) = (h 90 29) ∧ (h' 90 30) = (h 90 30) ∧ (h' 90 34) = (h 90 34) ∧ -1 ≤ r ∧ r ≤ 89000 * (13 - x - y)) ∧ h' 91 = h 91 ∧ h' 92 = h 92 ∧ h' 93 = h 93 ∧ h' 94 = h 94 ∧ h' 95 = h 95 ∧ h' 96 = h 96 ∧ h' 97 = h 97 ∧ h' 98 = h 98 ∧ h' 99 = h 99 ∧ h' 100 = h 100 ∧ h' 103 = h 103 ∧ h' 104 = h 104 ∧ h' 109 = h 109 ∧ h' 114 = h 114 ∧ (ov_MI (h 96) (h 103) (h 97) (h 98) go wt sf sm (h' 105) (h' 106)) ∧ ((0 ≤ r ↔ ∀ q : Int, 0 ≤ q → q < (h 96) (10 + 4 * (6 * y + x) + 1) → ov_gs (h 96) (h 97) (h 98) (ov_go (h 96) (h 103) (h 97) (h 98) go wt sf) go x y t q))
abbrev P_Mo_worthSeen_90 (F : ov_H × ov_Z) (z : ov_Z) (h : ov_H) (go : Int) (wt : Int) (sf : Int) (sm : Int) (x : Int) (y : Int) (t : Int) (sn : Int) : Option ov_V → ov_Z → ov_H → Prop := fun r0 z' h' => ∃ r : Int, r0 = some (ov_i r) ∧ ov_N F z' h' ∧ ((h' 90 2) = (h 90 2) ∧ (h' 90 7) = (h 90 7) ∧ (h' 90 8) = (h 90 8) ∧ (h' 90 13) = (h 90 13) ∧ (h' 90 20) = (h 90 20) ∧ (h' 90 22) = (h 90 22) ∧ (h' 90 25) = (h 90 25) ∧ (h' 90 26) = (h 90 26) ∧ (h' 90 28) = (h 90 28) ∧ (h' 90 29) = (h 90 29) ∧ (h' 90 30) = (h 90 30) ∧ (h' 90 34) = (h 90 34) ∧ -1 ≤ r ∧ r ≤ 89000 * (13 - x - y)) ∧ h' 91 = h 91 ∧ h' 92 = h 92 ∧ h' 93 = h 93 ∧ h' 94 = h 94 ∧ h' 95 = h 95 ∧ h' 96 = h 96 ∧ h' 97 = h 97 ∧ h' 98 = h 98 ∧ h' 99 = h 99 ∧ h' 100 = h 100 ∧ h' 103 = h 103 ∧ h' 104 = h 104 ∧ h' 109 = h 109 ∧ h' 114 = h 114 ∧ (ov_MI (h 96) (h 103) (h 97) (h 98) go wt sf sm (h' 105) (h' 106)) ∧ ((0 ≤ r ↔ ov_gs (h 96) (h 97) (h 98) (ov_go (h 96) (h 103) (h 97) (h 98) go wt sf) go x y t sn))
abbrev P_Mo_worthBy_90 (F : ov_H × ov_Z) (z : ov_Z) (h : ov_H) (go : Int) (wt : Int) (sf : Int) (sm : Int) (x : Int) (y : Int) (way : Int) (t : Int) (sn : Int) : Option ov_V → ov_Z → ov_H → Prop := fun r0 z' h' => ∃ r : Int, r0 = some (ov_i r) ∧ ov_N F z' h' ∧ ((h' 90 2) = (h 90 2) ∧ (h' 90 7) = (h 90 7) ∧ (h' 90 8) = (h 90 8) ∧ (h' 90 13) = (h 90 13) ∧ (h' 90 20) = (h 90 20) ∧ (h' 90 22) = (h 90 22) ∧ (h' 90 25) = (h 90 25) ∧ (h' 90 26) = (h 90 26) ∧ (h' 90 28) = (h 90 28) ∧ (h' 90 29) = (h 90 29) ∧ (h' 90 30) = (h 90 30) ∧ (h' 90 34) = (h 90 34) ∧ -1 ≤ r ∧ r ≤ 89000 * (13 - x - y)) ∧ h' 91 = h 91 ∧ h' 92 = h 92 ∧ h' 93 = h 93 ∧ h' 94 = h 94 ∧ h' 95 = h 95 ∧ h' 96 = h 96 ∧ h' 97 = h 97 ∧ h' 98 = h 98 ∧ h' 99 = h 99 ∧ h' 100 = h 100 ∧ h' 103 = h 103 ∧ h' 104 = h 104 ∧ h' 109 = h 109 ∧ h' 114 = h 114 ∧ (ov_MI (h 96) (h 103) (h 97) (h 98) go wt sf sm (h' 105) (h' 106)) ∧ ((0 ≤ r ↔ ov_go (h 96) (h 103) (h 97) (h 98) go wt sf (x + 1 - way) (y + way) (ov_nx (h 96) t (ov_wm (h 96) (6 * y + x) way sn))))
abbrev P_Mo_wayOf_90 (F : ov_H × ov_Z) (z : ov_Z) (h : ov_H) (go : Int) (wt : Int) (sf : Int) (sm : Int) (x : Int) (y : Int) (t : Int) (sn : Int) : Option ov_V → ov_Z → ov_H → Prop := fun r0 z' h' => ∃ r : Int, r0 = some (ov_i r) ∧ ov_N F z' h' ∧ ((h' 90 2) = (h 90 2) ∧ (h' 90 7) = (h 90 7) ∧ (h' 90 8) = (h 90 8) ∧ (h' 90 13) = (h 90 13) ∧ (h' 90 20) = (h 90 20) ∧ (h' 90 22) = (h 90 22) ∧ (h' 90 25) = (h 90 25) ∧ (h' 90 26) = (h 90 26) ∧ (h' 90 28) = (h 90 28) ∧ (h' 90 29) = (h 90 29) ∧ (h' 90 30) = (h 90 30) ∧ (h' 90 34) = (h 90 34) ∧ -1 ≤ r ∧ r ≤ 1) ∧ h' 91 = h 91 ∧ h' 92 = h 92 ∧ h' 93 = h 93 ∧ h' 94 = h 94 ∧ h' 95 = h 95 ∧ h' 96 = h 96 ∧ h' 97 = h 97 ∧ h' 98 = h 98 ∧ h' 99 = h 99 ∧ h' 100 = h 100 ∧ h' 103 = h 103 ∧ h' 104 = h 104 ∧ h' 109 = h 109 ∧ h' 114 = h 114 ∧ (ov_MI (h 96) (h 103) (h 97) (h 98) go wt sf sm (h' 105) (h' 106)) ∧ (ov_wf (h 96) (h 97) (h 98) (ov_go (h 96) (h 103) (h 97) (h 98) go wt sf) go x y t sn r)
set_option maxHeartbeats 4000000 in
theorem c_Mo_worthBy_90 {u : ov_U} {F : ov_H × ov_Z} (go : Int) (wt : Int) (sf : Int) (sm : Int) (k : Nat) (HV : ∀ k' : Nat, k' < k → ∀ {z : ov_Z} {h : ov_H} (d : Nat) (hd : (10 + 5 * k' + 4) ≤ d) (U : ov_cap u) (I : ov_N F z h) (x : Int) (y : Int) (s : Int) (g_x : ov_g x) (g_y : ov_g y) (g_s : ov_g s) (p0 : 0 ≤ x ∧ x ≤ 5 ∧ 0 ≤ y ∧ y ≤ 8) (p1 : x < (h 96 0) ∧ y < (h 96 1)) (p2 : x + y + (k' : Int) = 13) (p3 : 0 ≤ s ∧ s ≤ 2000000) (p4 : (h 90 26) = go) (p5 : (h 90 29) = wt) (p6 : (h 90 30) = sf) (p7 : (h 90 25) = sm) (p8 : 0 ≤ go ∧ go ≤ 3 + (h 96 8)) (W : ov_WT (h 96)) (CD : ov_CD (h 96) (h 97) (h 98)) (MI : ov_MI (h 96) (h 103) (h 97) (h 98) go wt sf sm (h 105) (h 106)), ov_T u d ov_m272 [ov_r 90, ov_i x, ov_i y, ov_i s] z h (P_Mo_worthFrom_90 F z h go wt sf sm x y s)) {z : ov_Z} {h : ov_H} (d : Nat) (hd : (10 + 5 * k + 0) ≤ d) (U : ov_cap u) (I : ov_N F z h) (x : Int) (y : Int) (way : Int) (t : Int) (sn : Int) (g_x : ov_g x) (g_y : ov_g y) (g_way : ov_g way) (g_t : ov_g t) (g_sn : ov_g sn) (p0 : 0 ≤ x ∧ x ≤ 5 ∧ 0 ≤ y ∧ y ≤ 8) (p1 : x < (h 96 0) ∧ y < (h 96 1)) (p2 : 0 ≤ way ∧ way ≤ 1) (p3 : x + y + (k : Int) = 13) (p4 : 0 ≤ t ∧ t < (h 96 9)) (p5 : 0 ≤ sn ∧ sn ≤ 3000) (p6 : ((way = 0 → x < (h 96 0) - 1) ∧ (¬ way = 0 → y < (h 96 1) - 1)) ∧ (((h 96 (10 + 4 * (6 * y + x))) = 1 ∨ (h 96 (10 + 4 * (6 * y + x))) = 2) → (way = 0 → 0 < (h 96 (10 + 4 * (6 * y + x) + 3))) ∧ (¬ way = 0 → (h 96 (10 + 4 * (6 * y + x) + 3)) < (h 96 (10 + 4 * (6 * y + x) + 1))))) (p7 : (h 90 26) = go) (p8 : (h 90 29) = wt) (p9 : (h 90 30) = sf) (p10 : (h 90 25) = sm) (p11 : 0 ≤ go ∧ go ≤ 3 + (h 96 8)) (W : ov_WT (h 96)) (CD : ov_CD (h 96) (h 97) (h 98)) (MI : ov_MI (h 96) (h 103) (h 97) (h 98) go wt sf sm (h 105) (h 106)) : ov_T u d ov_m277 [ov_r 90, ov_i x, ov_i y, ov_i way, ov_i t, ov_i sn] z h (P_Mo_worthBy_90 F z h go wt sf sm x y way t sn) := by
  refine ov_en rfl (Nat.le_of_ble_eq_true rfl) ?_
  show ov_R u d ov_m277 0 [(0, ov_r 90), (1, ov_i x), (2, ov_i y), (3, ov_i way), (4, ov_i t), (5, ov_i sn)] [] z h (P_Mo_worthBy_90 F z h go wt sf sm x y way t sn)
  have t0 := t96_0 I
  have t1 := t96_1 I
  have t9 := t96_9 I
  refine ov_blk (ls2 := [(0, ov_r 90), (1, ov_i x), (2, ov_i y), (3, ov_i way), (4, ov_i t), (5, ov_i sn)]) (st2 := [ov_i sn, ov_i way, ov_i y, ov_i x, ov_r 90]) (pc2 := 6) b_277_0_5 rfl rfl ?_
  refine ov_cV (as := [ov_i x, ov_i y, ov_i way, ov_i sn]) (st := []) (d2 := d - 1) d_277_6 lk_Mo_315 rfl (Nat.le_of_ble_eq_true rfl) (c := 1) (zb_90 I) (zs_90 I) ⟨by decide, rfl⟩ (by omega) (c_Mo_waitFor_90 (d - 1) (by omega) U I x y way sn (by omega) (by omega) (by omega) (by omega) (by omega) (by omega) (by omega) (by show (((h 96 (10 + 4 * (6 * y + x))) = 1 ∨ (h 96 (10 + 4 * (6 * y + x))) = 2) → (way = 0 → 0 < (h 96 (10 + 4 * (6 * y + x) + 3))) ∧ (¬ way = 0 → (h 96 (10 + 4 * (6 * y + x) + 3)) < (h 96 (10 + 4 * (6 * y + x) + 1)))); omega) W) ?_
  rintro _ _ _ ⟨v2, rfl, rfl, rfl, f1⟩
  show ov_R u d ov_m277 9 [(0, ov_r 90), (1, ov_i x), (2, ov_i y), (3, ov_i way), (4, ov_i t), (5, ov_i sn)] [ov_i v2] z h (P_Mo_worthBy_90 F z h go wt sf sm x y way t sn)
  have f3 : 0 ≤ v2 ∧ v2 ≤ 59 ∧ v2 = ov_wm (h 96) (6 * y + x) way sn := f1
  clear f1
  refine ov_blk (ls2 := [(0, ov_r 90), (1, ov_i x), (2, ov_i y), (3, ov_i way), (4, ov_i t), (5, ov_i sn)]) (st2 := [ov_r 90, ov_i v2]) (pc2 := 10) b_277_9_1 rfl rfl ?_
  refine ov_getf (v := ov_r 96) d_277_10 fl_Mo_81 (zb_90 I) (zs_90 I) (congrArg ov_r (rg_90_10 I)) ?_
  refine ov_blk (ls2 := [(0, ov_r 90), (1, ov_i x), (2, ov_i y), (3, ov_i way), (4, ov_i t), (5, ov_i sn)]) (st2 := [ov_i 2, ov_r 96, ov_i v2]) (pc2 := 14) b_277_13_1 rfl rfl ?_
  refine ov_iald d_277_14 (zb_96 I) (zs_96 I) (by omega) ?_
  have g4 := t96_2 I
  refine ov_blk (ls2 := [(0, ov_r 90), (1, ov_i x), (2, ov_i y), (3, ov_i way), (4, ov_i t), (5, ov_i sn), (6, ov_i (v2 + (h 96 2)))]) (st2 := [ov_i (t + (v2 + (h 96 2))), ov_i (y + way), ov_i ((x + 1) - way), ov_r 90]) (pc2 := 32) b_277_15_14 rfl rfl ?_
  refine ov_cV (as := [ov_i ((x + 1) - way), ov_i (y + way), ov_i (t + (v2 + (h 96 2)))]) (st := []) (d2 := d - 1) d_277_32 lk_Mo_377 rfl (Nat.le_of_ble_eq_true rfl) (c := 1) (zb_90 I) (zs_90 I) ⟨by decide, rfl⟩ (by omega) (HV (Int.toNat (13 - (((x + 1) - way)) - ((y + way)))) (by omega) (d - 1) (by omega) U I ((x + 1) - way) (y + way) (t + (v2 + (h 96 2))) (by omega) (by omega) (by omega) (by omega) (by show ((x + 1) - way) < (h 96 0) ∧ (y + way) < (h 96 1); omega) (by omega) (by omega) (by show (h 90 26) = go; omega) (by show (h 90 29) = wt; omega) (by show (h 90 30) = sf; omega) (by show (h 90 25) = sm; omega) (by show 0 ≤ go ∧ go ≤ 3 + (h 96 8); omega) W CD MI) ?_
  rintro _ z23 h24 ⟨v6, rfl, I25, f5, e7, e8, e9, e10, e11, e12, e13, e14, e15, e16, e17, e18, e19, e20, y21, y22⟩
  have E26 : h24 91 = h 91 := e7
  have E27 : h24 92 = h 92 := e8
  have E28 : h24 93 = h 93 := e9
  have E29 : h24 94 = h 94 := e10
  have E30 : h24 95 = h 95 := e11
  have E31 : h24 96 = h 96 := e12
  have E32 : h24 97 = h 97 := e13
  have E33 : h24 98 = h 98 := e14
  have E34 : h24 99 = h 99 := e15
  have E35 : h24 100 = h 100 := e16
  have E36 : h24 103 = h 103 := e17
  have E37 : h24 104 = h 104 := e18
  have E38 : h24 109 = h 109 := e19
  have E39 : h24 114 = h 114 := e20
  show ov_R u d ov_m277 35 [(0, ov_r 90), (1, ov_i x), (2, ov_i y), (3, ov_i way), (4, ov_i t), (5, ov_i sn), (6, ov_i (v2 + (h 96 2)))] [ov_i v6] z23 h24 (P_Mo_worthBy_90 F z h go wt sf sm x y way t sn)
  have f40 : (h24 90 2) = (h 90 2) ∧ (h24 90 7) = (h 90 7) ∧ (h24 90 8) = (h 90 8) ∧ (h24 90 13) = (h 90 13) ∧ (h24 90 20) = (h 90 20) ∧ (h24 90 22) = (h 90 22) ∧ (h24 90 25) = (h 90 25) ∧ (h24 90 26) = (h 90 26) ∧ (h24 90 28) = (h 90 28) ∧ (h24 90 29) = (h 90 29) ∧ (h24 90 30) = (h 90 30) ∧ (h24 90 34) = (h 90 34) ∧ -1 ≤ v6 ∧ v6 ≤ 89000 * (13 - ((x + 1) - way) - (y + way)) := f5
  clear f5
  have y21_ : ov_MI (h 96) (h 103) (h 97) (h 98) go wt sf sm (h24 105) (h24 106) := y21
  have y22_ : (0 ≤ v6 ↔ ov_go (h 96) (h 103) (h 97) (h 98) go wt sf ((x + 1) - way) (y + way) ((t + (v2 + (h 96 2))) % (h 96 9))) := y22
  have ex : (t + (v2 + (h 96 2))) % h 96 9 = ov_nx (h 96) t (ov_wm (h 96) (6 * y + x) way sn) := by unfold ov_nx; congr 1; omega
  have wfx := y22_
  rw [ex] at wfx
  refine ov_blk (ls2 := [(0, ov_r 90), (1, ov_i x), (2, ov_i y), (3, ov_i way), (4, ov_i t), (5, ov_i sn), (6, ov_i (v2 + (h 96 2))), (7, ov_i v6)]) (st2 := [ov_i v6]) (pc2 := 39) b_277_35_2 rfl rfl ?_
  refine ov_ifge (tgt := 46) d_277_39 (by decide) (by omega) (fun c41 => ?_) (fun c41 => ?_)
  · skip
    refine ov_blk (ls2 := [(0, ov_r 90), (1, ov_i x), (2, ov_i y), (3, ov_i way), (4, ov_i t), (5, ov_i sn), (6, ov_i (v2 + (h 96 2))), (7, ov_i v6)]) (st2 := [ov_r 90, ov_i v6]) (pc2 := 49) b_277_46_2 rfl rfl ?_
    refine ov_getf (v := ov_i (h24 90 27)) d_277_49 fl_Mo_349 (zb_90 I25) (zs_90 I25) rfl ?_
    have g42 := rg_90_27 I25
    refine ov_ifeq (tgt := 60) d_277_52 (by decide) (by omega) (fun c43 => ?_) (fun c43 => ?_)
    · skip
      refine ov_blk (ls2 := [(0, ov_r 90), (1, ov_i x), (2, ov_i y), (3, ov_i way), (4, ov_i t), (5, ov_i sn), (6, ov_i (v2 + (h 96 2))), (7, ov_i v6)]) (st2 := [ov_i (v6 + (1000 * (v2 + (h 96 2))))]) (pc2 := 67) b_277_60_4 rfl rfl ?_
      exact ov_reti (st := []) d_277_67 rfl ⟨_, rfl, I25, (by show (h24 90 2) = (h 90 2) ∧ (h24 90 7) = (h 90 7) ∧ (h24 90 8) = (h 90 8) ∧ (h24 90 13) = (h 90 13) ∧ (h24 90 20) = (h 90 20) ∧ (h24 90 22) = (h 90 22) ∧ (h24 90 25) = (h 90 25) ∧ (h24 90 26) = (h 90 26) ∧ (h24 90 28) = (h 90 28) ∧ (h24 90 29) = (h 90 29) ∧ (h24 90 30) = (h 90 30) ∧ (h24 90 34) = (h 90 34) ∧ -1 ≤ (v6 + (1000 * (v2 + (h 96 2)))) ∧ (v6 + (1000 * (v2 + (h 96 2)))) ≤ 89000 * (13 - x - y); omega), E26, E27, E28, E29, E30, E31, E32, E33, E34, E35, E36, E37, E38, E39, y21_, (iff_of_true (by omega) (wfx.mp (by omega)))⟩
    · skip
      refine ov_blk (ls2 := [(0, ov_r 90), (1, ov_i x), (2, ov_i y), (3, ov_i way), (4, ov_i t), (5, ov_i sn), (6, ov_i (v2 + (h 96 2))), (7, ov_i v6)]) (st2 := [ov_i (v2 + (h 96 2)), ov_i v6]) (pc2 := 57) b_277_55_1 rfl rfl ?_
      refine ov_goto (tgt := 66) d_277_57 (by decide) ?_
      refine ov_blk (ls2 := [(0, ov_r 90), (1, ov_i x), (2, ov_i y), (3, ov_i way), (4, ov_i t), (5, ov_i sn), (6, ov_i (v2 + (h 96 2))), (7, ov_i v6)]) (st2 := [ov_i (v6 + (v2 + (h 96 2)))]) (pc2 := 67) b_277_66_1 rfl rfl ?_
      exact ov_reti (st := []) d_277_67 rfl ⟨_, rfl, I25, (by show (h24 90 2) = (h 90 2) ∧ (h24 90 7) = (h 90 7) ∧ (h24 90 8) = (h 90 8) ∧ (h24 90 13) = (h 90 13) ∧ (h24 90 20) = (h 90 20) ∧ (h24 90 22) = (h 90 22) ∧ (h24 90 25) = (h 90 25) ∧ (h24 90 26) = (h 90 26) ∧ (h24 90 28) = (h 90 28) ∧ (h24 90 29) = (h 90 29) ∧ (h24 90 30) = (h 90 30) ∧ (h24 90 34) = (h 90 34) ∧ -1 ≤ (v6 + (v2 + (h 96 2))) ∧ (v6 + (v2 + (h 96 2))) ≤ 89000 * (13 - x - y); omega), E26, E27, E28, E29, E30, E31, E32, E33, E34, E35, E36, E37, E38, E39, y21_, (iff_of_true (by omega) (wfx.mp (by omega)))⟩
  · skip
    refine ov_blk (ls2 := [(0, ov_r 90), (1, ov_i x), (2, ov_i y), (3, ov_i way), (4, ov_i t), (5, ov_i sn), (6, ov_i (v2 + (h 96 2))), (7, ov_i v6)]) (st2 := [ov_i (-1)]) (pc2 := 43) b_277_42_1 rfl rfl ?_
    refine ov_goto (tgt := 67) d_277_43 (by decide) ?_
    exact ov_reti (st := []) d_277_67 rfl ⟨_, rfl, I25, (by show (h24 90 2) = (h 90 2) ∧ (h24 90 7) = (h 90 7) ∧ (h24 90 8) = (h 90 8) ∧ (h24 90 13) = (h 90 13) ∧ (h24 90 20) = (h 90 20) ∧ (h24 90 22) = (h 90 22) ∧ (h24 90 25) = (h 90 25) ∧ (h24 90 26) = (h 90 26) ∧ (h24 90 28) = (h 90 28) ∧ (h24 90 29) = (h 90 29) ∧ (h24 90 30) = (h 90 30) ∧ (h24 90 34) = (h 90 34) ∧ -1 ≤ (-1) ∧ (-1) ≤ 89000 * (13 - x - y); omega), E26, E27, E28, E29, E30, E31, E32, E33, E34, E35, E36, E37, E38, E39, y21_, (iff_of_false (by decide) (fun a => absurd (wfx.mpr a) (by omega)))⟩
set_option maxHeartbeats 4000000 in
theorem c_Mo_wayOf_90 {u : ov_U} {F : ov_H × ov_Z} (go : Int) (wt : Int) (sf : Int) (sm : Int) (k : Nat) (HV : ∀ k' : Nat, k' < k → ∀ {z : ov_Z} {h : ov_H} (d : Nat) (hd : (10 + 5 * k' + 4) ≤ d) (U : ov_cap u) (I : ov_N F z h) (x : Int) (y : Int) (s : Int) (g_x : ov_g x) (g_y : ov_g y) (g_s : ov_g s) (p0 : 0 ≤ x ∧ x ≤ 5 ∧ 0 ≤ y ∧ y ≤ 8) (p1 : x < (h 96 0) ∧ y < (h 96 1)) (p2 : x + y + (k' : Int) = 13) (p3 : 0 ≤ s ∧ s ≤ 2000000) (p4 : (h 90 26) = go) (p5 : (h 90 29) = wt) (p6 : (h 90 30) = sf) (p7 : (h 90 25) = sm) (p8 : 0 ≤ go ∧ go ≤ 3 + (h 96 8)) (W : ov_WT (h 96)) (CD : ov_CD (h 96) (h 97) (h 98)) (MI : ov_MI (h 96) (h 103) (h 97) (h 98) go wt sf sm (h 105) (h 106)), ov_T u d ov_m272 [ov_r 90, ov_i x, ov_i y, ov_i s] z h (P_Mo_worthFrom_90 F z h go wt sf sm x y s)) {z : ov_Z} {h : ov_H} (d : Nat) (hd : (10 + 5 * k + 1) ≤ d) (U : ov_cap u) (I : ov_N F z h) (x : Int) (y : Int) (t : Int) (sn : Int) (g_x : ov_g x) (g_y : ov_g y) (g_t : ov_g t) (g_sn : ov_g sn) (p0 : 0 ≤ x ∧ x ≤ 5 ∧ 0 ≤ y ∧ y ≤ 8) (p1 : x < (h 96 0) ∧ y < (h 96 1)) (p2 : x + y + (k : Int) = 13) (p3 : 0 ≤ t ∧ t < (h 96 9)) (p4 : 0 ≤ sn ∧ sn ≤ 3000) (p5 : (h 90 26) = go) (p6 : (h 90 29) = wt) (p7 : (h 90 30) = sf) (p8 : (h 90 25) = sm) (p9 : 0 ≤ go ∧ go ≤ 3 + (h 96 8)) (W : ov_WT (h 96)) (CD : ov_CD (h 96) (h 97) (h 98)) (MI : ov_MI (h 96) (h 103) (h 97) (h 98) go wt sf sm (h 105) (h 106)) : ov_T u d ov_m276 [ov_r 90, ov_i x, ov_i y, ov_i t, ov_i sn] z h (P_Mo_wayOf_90 F z h go wt sf sm x y t sn) := by
  refine ov_en rfl (Nat.le_of_ble_eq_true rfl) ?_
  show ov_R u d ov_m276 0 [(0, ov_r 90), (1, ov_i x), (2, ov_i y), (3, ov_i t), (4, ov_i sn)] [] z h (P_Mo_wayOf_90 F z h go wt sf sm x y t sn)
  have t0 := t96_0 I
  have t1 := t96_1 I
  have t9 := t96_9 I
  refine ov_blk (ls2 := [(0, ov_r 90), (1, ov_i x), (2, ov_i y), (3, ov_i t), (4, ov_i sn)]) (st2 := [ov_i 0, ov_i y, ov_i x, ov_r 90]) (pc2 := 4) b_276_0_4 rfl rfl ?_
  refine ov_cV (as := [ov_i x, ov_i y, ov_i 0]) (st := []) (d2 := d - 1) d_276_4 lk_Mo_309 rfl (Nat.le_of_ble_eq_true rfl) (c := 1) (zb_90 I) (zs_90 I) ⟨by decide, rfl⟩ (by omega) (c_Mo_canGo_90 (d - 1) (by omega) U I x y 0 (by omega) (by omega) (by omega) (by omega) (by omega)) ?_
  rintro _ _ _ ⟨v2, rfl, rfl, rfl, f1⟩
  show ov_R u d ov_m276 7 [(0, ov_r 90), (1, ov_i x), (2, ov_i y), (3, ov_i t), (4, ov_i sn)] [ov_i v2] z h (P_Mo_wayOf_90 F z h go wt sf sm x y t sn)
  have f3 : (v2 = 0 ∨ v2 = 1) ∧ v2 = ov_cgi (h 96) x y (0 : Int) ∧ (v2 = 1 → (((0 : Int) = 0 → x < (h 96 0) - 1) ∧ (¬ (0 : Int) = 0 → y < (h 96 1) - 1)) ∧ (((h 96 (10 + 4 * (6 * y + x))) = 1 ∨ (h 96 (10 + 4 * (6 * y + x))) = 2) → ((0 : Int) = 0 → 0 < (h 96 (10 + 4 * (6 * y + x) + 3))) ∧ (¬ (0 : Int) = 0 → (h 96 (10 + 4 * (6 * y + x) + 3)) < (h 96 (10 + 4 * (6 * y + x) + 1))))) := f1
  clear f1
  refine ov_blk (ls2 := [(0, ov_r 90), (1, ov_i x), (2, ov_i y), (3, ov_i t), (4, ov_i sn), (5, ov_i v2)]) (st2 := [ov_i 1, ov_i y, ov_i x, ov_r 90]) (pc2 := 13) b_276_7_5 rfl rfl ?_
  refine ov_cV (as := [ov_i x, ov_i y, ov_i 1]) (st := []) (d2 := d - 1) d_276_13 lk_Mo_309 rfl (Nat.le_of_ble_eq_true rfl) (c := 1) (zb_90 I) (zs_90 I) ⟨by decide, rfl⟩ (by omega) (c_Mo_canGo_90 (d - 1) (by omega) U I x y 1 (by omega) (by omega) (by omega) (by omega) (by omega)) ?_
  rintro _ _ _ ⟨v5, rfl, rfl, rfl, f4⟩
  show ov_R u d ov_m276 16 [(0, ov_r 90), (1, ov_i x), (2, ov_i y), (3, ov_i t), (4, ov_i sn), (5, ov_i v2)] [ov_i v5] z h (P_Mo_wayOf_90 F z h go wt sf sm x y t sn)
  have f6 : (v5 = 0 ∨ v5 = 1) ∧ v5 = ov_cgi (h 96) x y (1 : Int) ∧ (v5 = 1 → (((1 : Int) = 0 → x < (h 96 0) - 1) ∧ (¬ (1 : Int) = 0 → y < (h 96 1) - 1)) ∧ (((h 96 (10 + 4 * (6 * y + x))) = 1 ∨ (h 96 (10 + 4 * (6 * y + x))) = 2) → ((1 : Int) = 0 → 0 < (h 96 (10 + 4 * (6 * y + x) + 3))) ∧ (¬ (1 : Int) = 0 → (h 96 (10 + 4 * (6 * y + x) + 3)) < (h 96 (10 + 4 * (6 * y + x) + 1))))) := f4
  clear f4
  refine ov_blk (ls2 := [(0, ov_r 90), (1, ov_i x), (2, ov_i y), (3, ov_i t), (4, ov_i sn), (5, ov_i v2), (6, ov_i v5)]) (st2 := [ov_r 90]) (pc2 := 19) b_276_16_2 rfl rfl ?_
  refine ov_getf (v := ov_i (h 90 26)) d_276_19 fl_Mo_116 (zb_90 I) (zs_90 I) rfl ?_
  have g7 := rg_90_26 I
  refine ov_blk (ls2 := [(0, ov_r 90), (1, ov_i x), (2, ov_i y), (3, ov_i t), (4, ov_i sn), (5, ov_i v2), (6, ov_i v5)]) (st2 := [ov_i 3, ov_i (h 90 26)]) (pc2 := 23) b_276_22_1 rfl rfl ?_
  refine ov_icne (tgt := 100) d_276_23 (by decide) (by omega) (by omega) (fun c8 => ?_) (fun c8 => ?_)
  · skip
    refine ov_blk (ls2 := [(0, ov_r 90), (1, ov_i x), (2, ov_i y), (3, ov_i t), (4, ov_i sn), (5, ov_i v2), (6, ov_i v5)]) (st2 := [ov_i v2]) (pc2 := 102) b_276_100_1 rfl rfl ?_
    refine ov_ifeq (tgt := 110) d_276_102 (by decide) (by omega) (fun c9 => ?_) (fun c9 => ?_)
    · skip
      have f3_ : v2 = 0 := by omega
      have f10 : v2 = ov_cgi (h 96) x y (0 : Int) := f3.2.1
      clear f3
      refine ov_blk (ls2 := [(0, ov_r 90), (1, ov_i x), (2, ov_i y), (3, ov_i t), (4, ov_i sn), (5, ov_i v2), (6, ov_i v5)]) (st2 := [ov_i v2]) (pc2 := 112) b_276_110_1 rfl rfl ?_
      refine ov_ifeq (tgt := 119) d_276_112 (by decide) (by omega) (fun c11 => ?_) (fun c11 => ?_)
      · skip
        refine ov_blk (ls2 := [(0, ov_r 90), (1, ov_i x), (2, ov_i y), (3, ov_i t), (4, ov_i sn), (5, ov_i v2), (6, ov_i v5)]) (st2 := [ov_i v5]) (pc2 := 121) b_276_119_1 rfl rfl ?_
        refine ov_ifeq (tgt := 128) d_276_121 (by decide) (by omega) (fun c12 => ?_) (fun c12 => ?_)
        · skip
          have f6_ : v5 = 0 := by omega
          have f13 : v5 = ov_cgi (h 96) x y (1 : Int) := f6.2.1
          clear f6
          refine ov_blk (ls2 := [(0, ov_r 90), (1, ov_i x), (2, ov_i y), (3, ov_i t), (4, ov_i sn), (5, ov_i v2), (6, ov_i v5)]) (st2 := [ov_i (-1)]) (pc2 := 129) b_276_128_1 rfl rfl ?_
          have ey : ov_wy (h 96) (h 97) (h 98) go x y sn = (-1) := by unfold ov_wy; repeat (first | rw [if_pos (by omega)] | rw [if_neg (by omega)])
          exact ov_reti (st := []) d_276_129 rfl ⟨_, rfl, I, ⟨rfl, rfl, rfl, rfl, rfl, rfl, rfl, rfl, rfl, rfl, rfl, rfl, (by show -1 ≤ (-1) ∧ (-1) ≤ 1; omega)⟩, rfl, rfl, rfl, rfl, rfl, rfl, rfl, rfl, rfl, rfl, rfl, rfl, rfl, rfl, MI, (ov_wf_o (by omega) (by omega) ey)⟩
        · skip
          have f6_ : v5 = 1 := by omega
          have f14 : v5 = ov_cgi (h 96) x y (1 : Int) := f6.2.1
          have f15 : (((1 : Int) = 0 → x < (h 96 0) - 1) ∧ (¬ (1 : Int) = 0 → y < (h 96 1) - 1)) ∧ (((h 96 (10 + 4 * (6 * y + x))) = 1 ∨ (h 96 (10 + 4 * (6 * y + x))) = 2) → ((1 : Int) = 0 → 0 < (h 96 (10 + 4 * (6 * y + x) + 3))) ∧ (¬ (1 : Int) = 0 → (h 96 (10 + 4 * (6 * y + x) + 3)) < (h 96 (10 + 4 * (6 * y + x) + 1)))) := f6.2.2 (by omega)
          clear f6
          refine ov_blk (ls2 := [(0, ov_r 90), (1, ov_i x), (2, ov_i y), (3, ov_i t), (4, ov_i sn), (5, ov_i v2), (6, ov_i v5)]) (st2 := [ov_i 1]) (pc2 := 125) b_276_124_1 rfl rfl ?_
          refine ov_goto (tgt := 129) d_276_125 (by decide) ?_
          have ey : ov_wy (h 96) (h 97) (h 98) go x y sn = 1 := by unfold ov_wy; repeat (first | rw [if_pos (by omega)] | rw [if_neg (by omega)])
          exact ov_reti (st := []) d_276_129 rfl ⟨_, rfl, I, ⟨rfl, rfl, rfl, rfl, rfl, rfl, rfl, rfl, rfl, rfl, rfl, rfl, (by show -1 ≤ 1 ∧ 1 ≤ 1; omega)⟩, rfl, rfl, rfl, rfl, rfl, rfl, rfl, rfl, rfl, rfl, rfl, rfl, rfl, rfl, MI, (ov_wf_o (by omega) (by omega) ey)⟩
      · omega
    · skip
      have f3_ : v2 = 1 := by omega
      have f16 : v2 = ov_cgi (h 96) x y (0 : Int) := f3.2.1
      have f17 : (((0 : Int) = 0 → x < (h 96 0) - 1) ∧ (¬ (0 : Int) = 0 → y < (h 96 1) - 1)) ∧ (((h 96 (10 + 4 * (6 * y + x))) = 1 ∨ (h 96 (10 + 4 * (6 * y + x))) = 2) → ((0 : Int) = 0 → 0 < (h 96 (10 + 4 * (6 * y + x) + 3))) ∧ (¬ (0 : Int) = 0 → (h 96 (10 + 4 * (6 * y + x) + 3)) < (h 96 (10 + 4 * (6 * y + x) + 1)))) := f3.2.2 (by omega)
      clear f3
      refine ov_blk (ls2 := [(0, ov_r 90), (1, ov_i x), (2, ov_i y), (3, ov_i t), (4, ov_i sn), (5, ov_i v2), (6, ov_i v5)]) (st2 := [ov_i v5]) (pc2 := 107) b_276_105_1 rfl rfl ?_
      refine ov_ifne (tgt := 130) d_276_107 (by decide) (by omega) (fun c18 => ?_) (fun c18 => ?_)
      · skip
        have f6_ : v5 = 1 := by omega
        have f19 : v5 = ov_cgi (h 96) x y (1 : Int) := f6.2.1
        have f20 : (((1 : Int) = 0 → x < (h 96 0) - 1) ∧ (¬ (1 : Int) = 0 → y < (h 96 1) - 1)) ∧ (((h 96 (10 + 4 * (6 * y + x))) = 1 ∨ (h 96 (10 + 4 * (6 * y + x))) = 2) → ((1 : Int) = 0 → 0 < (h 96 (10 + 4 * (6 * y + x) + 3))) ∧ (¬ (1 : Int) = 0 → (h 96 (10 + 4 * (6 * y + x) + 3)) < (h 96 (10 + 4 * (6 * y + x) + 1)))) := f6.2.2 (by omega)
        clear f6
        refine ov_blk (ls2 := [(0, ov_r 90), (1, ov_i x), (2, ov_i y), (3, ov_i t), (4, ov_i sn), (5, ov_i v2), (6, ov_i v5)]) (st2 := [ov_i sn, ov_i 0, ov_i y, ov_i x, ov_r 90]) (pc2 := 136) b_276_130_5 rfl rfl ?_
        refine ov_cV (as := [ov_i x, ov_i y, ov_i 0, ov_i sn]) (st := []) (d2 := d - 1) d_276_136 lk_Mo_315 rfl (Nat.le_of_ble_eq_true rfl) (c := 1) (zb_90 I) (zs_90 I) ⟨by decide, rfl⟩ (by omega) (c_Mo_waitFor_90 (d - 1) (by omega) U I x y 0 sn (by omega) (by omega) (by omega) (by omega) (by omega) (by omega) (by omega) (by show (((h 96 (10 + 4 * (6 * y + x))) = 1 ∨ (h 96 (10 + 4 * (6 * y + x))) = 2) → ((0 : Int) = 0 → 0 < (h 96 (10 + 4 * (6 * y + x) + 3))) ∧ (¬ (0 : Int) = 0 → (h 96 (10 + 4 * (6 * y + x) + 3)) < (h 96 (10 + 4 * (6 * y + x) + 1)))); omega) W) ?_
        rintro _ _ _ ⟨v22, rfl, rfl, rfl, f21⟩
        show ov_R u d ov_m276 139 [(0, ov_r 90), (1, ov_i x), (2, ov_i y), (3, ov_i t), (4, ov_i sn), (5, ov_i v2), (6, ov_i v5)] [ov_i v22] z h (P_Mo_wayOf_90 F z h go wt sf sm x y t sn)
        have f23 : 0 ≤ v22 ∧ v22 ≤ 59 ∧ v22 = ov_wm (h 96) (6 * y + x) (0 : Int) sn := f21
        clear f21
        refine ov_blk (ls2 := [(0, ov_r 90), (1, ov_i x), (2, ov_i y), (3, ov_i t), (4, ov_i sn), (5, ov_i v2), (6, ov_i v5), (7, ov_i v22)]) (st2 := [ov_i sn, ov_i 1, ov_i y, ov_i x, ov_r 90]) (pc2 := 147) b_276_139_6 rfl rfl ?_
        refine ov_cV (as := [ov_i x, ov_i y, ov_i 1, ov_i sn]) (st := []) (d2 := d - 1) d_276_147 lk_Mo_315 rfl (Nat.le_of_ble_eq_true rfl) (c := 1) (zb_90 I) (zs_90 I) ⟨by decide, rfl⟩ (by omega) (c_Mo_waitFor_90 (d - 1) (by omega) U I x y 1 sn (by omega) (by omega) (by omega) (by omega) (by omega) (by omega) (by omega) (by show (((h 96 (10 + 4 * (6 * y + x))) = 1 ∨ (h 96 (10 + 4 * (6 * y + x))) = 2) → ((1 : Int) = 0 → 0 < (h 96 (10 + 4 * (6 * y + x) + 3))) ∧ (¬ (1 : Int) = 0 → (h 96 (10 + 4 * (6 * y + x) + 3)) < (h 96 (10 + 4 * (6 * y + x) + 1)))); omega) W) ?_
        rintro _ _ _ ⟨v25, rfl, rfl, rfl, f24⟩
        show ov_R u d ov_m276 150 [(0, ov_r 90), (1, ov_i x), (2, ov_i y), (3, ov_i t), (4, ov_i sn), (5, ov_i v2), (6, ov_i v5), (7, ov_i v22)] [ov_i v25] z h (P_Mo_wayOf_90 F z h go wt sf sm x y t sn)
        have f26 : 0 ≤ v25 ∧ v25 ≤ 59 ∧ v25 = ov_wm (h 96) (6 * y + x) (1 : Int) sn := f24
        clear f24
        refine ov_blk (ls2 := [(0, ov_r 90), (1, ov_i x), (2, ov_i y), (3, ov_i t), (4, ov_i sn), (5, ov_i v2), (6, ov_i v5), (7, ov_i v22), (8, ov_i v25)]) (st2 := [ov_r 90]) (pc2 := 153) b_276_150_2 rfl rfl ?_
        refine ov_getf (v := ov_i (h 90 26)) d_276_153 fl_Mo_116 (zb_90 I) (zs_90 I) rfl ?_
        refine ov_blk (ls2 := [(0, ov_r 90), (1, ov_i x), (2, ov_i y), (3, ov_i t), (4, ov_i sn), (5, ov_i v2), (6, ov_i v5), (7, ov_i v22), (8, ov_i v25)]) (st2 := [ov_i 3, ov_i (h 90 26)]) (pc2 := 157) b_276_156_1 rfl rfl ?_
        refine ov_icge (tgt := 188) d_276_157 (by decide) (by omega) (by omega) (fun c28 => ?_) (fun c28 => ?_)
        · skip
          refine ov_blk (ls2 := [(0, ov_r 90), (1, ov_i x), (2, ov_i y), (3, ov_i t), (4, ov_i sn), (5, ov_i v2), (6, ov_i v5), (7, ov_i v22), (8, ov_i v25)]) (st2 := [ov_r 90]) (pc2 := 189) b_276_188_1 rfl rfl ?_
          refine ov_getf (v := ov_r 101) d_276_189 fl_Mo_96 (zb_90 I) (zs_90 I) (congrArg ov_r (rg_90_17 I)) ?_
          refine ov_blk (ls2 := [(0, ov_r 90), (1, ov_i x), (2, ov_i y), (3, ov_i t), (4, ov_i sn), (5, ov_i v2), (6, ov_i v5), (7, ov_i v22), (8, ov_i v25)]) (st2 := [ov_i v22, ov_i 0, ov_r 101]) (pc2 := 195) b_276_192_2 rfl rfl ?_
          refine ov_iast d_276_195 (zb_101 I) (zs_101 I) (by omega) ?_
          have I29 := ua_101 (k := 0) (x := v22) I (by omega)
          refine ov_blk (ls2 := [(0, ov_r 90), (1, ov_i x), (2, ov_i y), (3, ov_i t), (4, ov_i sn), (5, ov_i v2), (6, ov_i v5), (7, ov_i v22), (8, ov_i v25)]) (st2 := [ov_r 90]) (pc2 := 197) b_276_196_1 rfl rfl ?_
          refine ov_getf (v := ov_r 101) d_276_197 fl_Mo_96 (zb_90 I29) (zs_90 I29) (congrArg ov_r (rg_90_17 I29)) ?_
          refine ov_blk (ls2 := [(0, ov_r 90), (1, ov_i x), (2, ov_i y), (3, ov_i t), (4, ov_i sn), (5, ov_i v2), (6, ov_i v5), (7, ov_i v22), (8, ov_i v25)]) (st2 := [ov_i v25, ov_i 1, ov_r 101]) (pc2 := 203) b_276_200_2 rfl rfl ?_
          refine ov_iast d_276_203 (zb_101 I29) (zs_101 I29) (by omega) ?_
          have I30 := ua_101 (k := 1) (x := v25) I29 (by omega)
          refine ov_blk (ls2 := [(0, ov_r 90), (1, ov_i x), (2, ov_i y), (3, ov_i t), (4, ov_i sn), (5, ov_i v2), (6, ov_i v5), (7, ov_i v22), (8, ov_i v25)]) (st2 := [ov_r 90]) (pc2 := 205) b_276_204_1 rfl rfl ?_
          refine ov_getf (v := ov_r 101) d_276_205 fl_Mo_96 (zb_90 I30) (zs_90 I30) (congrArg ov_r (rg_90_17 I30)) ?_
          refine ov_blk (ls2 := [(0, ov_r 90), (1, ov_i x), (2, ov_i y), (3, ov_i t), (4, ov_i sn), (5, ov_i v2), (6, ov_i v5), (7, ov_i v22), (8, ov_i v25)]) (st2 := [ov_r 90, ov_i 2, ov_r 101]) (pc2 := 210) b_276_208_2 rfl rfl ?_
          refine ov_cV (as := []) (st := [ov_i 2, ov_r 101]) (d2 := d - 1) d_276_210 lk_Mo_275 rfl (Nat.le_of_ble_eq_true rfl) (c := 1) (zb_90 I30) (zs_90 I30) ⟨by decide, rfl⟩ (by omega) (c_Mo_wide_90 (d - 1) (by omega) U I30) ?_
          rintro _ _ _ ⟨v32, rfl, rfl, rfl, f31⟩
          show ov_R u d ov_m276 213 [(0, ov_r 90), (1, ov_i x), (2, ov_i y), (3, ov_i t), (4, ov_i sn), (5, ov_i v2), (6, ov_i v5), (7, ov_i v22), (8, ov_i v25)] [ov_i v32, ov_i 2, ov_r 101] z (ov_up (ov_up h 101 0 v22) 101 1 v25) (P_Mo_wayOf_90 F z h go wt sf sm x y t sn)
          have f33 : v32 = (h 96 0) ∧ 1 ≤ v32 ∧ v32 ≤ 6 := f31
          clear f31
          refine ov_blk (ls2 := [(0, ov_r 90), (1, ov_i x), (2, ov_i y), (3, ov_i t), (4, ov_i sn), (5, ov_i v2), (6, ov_i v5), (7, ov_i v22), (8, ov_i v25)]) (st2 := [ov_i ((v32 - 1) - x), ov_i 2, ov_r 101]) (pc2 := 217) b_276_213_4 rfl rfl ?_
          refine ov_iast d_276_217 (zb_101 I30) (zs_101 I30) (by omega) ?_
          have I34 := ua_101 (k := 2) (x := ((v32 - 1) - x)) I30 (by omega)
          refine ov_blk (ls2 := [(0, ov_r 90), (1, ov_i x), (2, ov_i y), (3, ov_i t), (4, ov_i sn), (5, ov_i v2), (6, ov_i v5), (7, ov_i v22), (8, ov_i v25)]) (st2 := [ov_r 90]) (pc2 := 219) b_276_218_1 rfl rfl ?_
          refine ov_getf (v := ov_r 101) d_276_219 fl_Mo_96 (zb_90 I34) (zs_90 I34) (congrArg ov_r (rg_90_17 I34)) ?_
          refine ov_blk (ls2 := [(0, ov_r 90), (1, ov_i x), (2, ov_i y), (3, ov_i t), (4, ov_i sn), (5, ov_i v2), (6, ov_i v5), (7, ov_i v22), (8, ov_i v25)]) (st2 := [ov_r 90, ov_i 3, ov_r 101]) (pc2 := 224) b_276_222_2 rfl rfl ?_
          refine ov_cV (as := []) (st := [ov_i 3, ov_r 101]) (d2 := d - 1) d_276_224 lk_Mo_279 rfl (Nat.le_of_ble_eq_true rfl) (c := 1) (zb_90 I34) (zs_90 I34) ⟨by decide, rfl⟩ (by omega) (c_Mo_deep_90 (d - 1) (by omega) U I34) ?_
          rintro _ _ _ ⟨v36, rfl, rfl, rfl, f35⟩
          show ov_R u d ov_m276 227 [(0, ov_r 90), (1, ov_i x), (2, ov_i y), (3, ov_i t), (4, ov_i sn), (5, ov_i v2), (6, ov_i v5), (7, ov_i v22), (8, ov_i v25)] [ov_i v36, ov_i 3, ov_r 101] z (ov_up (ov_up (ov_up h 101 0 v22) 101 1 v25) 101 2 ((v32 - 1) - x)) (P_Mo_wayOf_90 F z h go wt sf sm x y t sn)
          have f37 : v36 = (h 96 1) ∧ 1 ≤ v36 ∧ v36 ≤ 9 := f35
          clear f35
          refine ov_blk (ls2 := [(0, ov_r 90), (1, ov_i x), (2, ov_i y), (3, ov_i t), (4, ov_i sn), (5, ov_i v2), (6, ov_i v5), (7, ov_i v22), (8, ov_i v25)]) (st2 := [ov_i ((v36 - 1) - y), ov_i 3, ov_r 101]) (pc2 := 231) b_276_227_4 rfl rfl ?_
          refine ov_iast d_276_231 (zb_101 I34) (zs_101 I34) (by omega) ?_
          have I38 := ua_101 (k := 3) (x := ((v36 - 1) - y)) I34 (by omega)
          refine ov_blk (ls2 := [(0, ov_r 90), (1, ov_i x), (2, ov_i y), (3, ov_i t), (4, ov_i sn), (5, ov_i v2), (6, ov_i v5), (7, ov_i v22), (8, ov_i v25)]) (st2 := [ov_r 90, ov_r 90]) (pc2 := 234) b_276_232_2 rfl rfl ?_
          refine ov_getf (v := ov_r 96) d_276_234 fl_Mo_81 (zb_90 I38) (zs_90 I38) (congrArg ov_r (rg_90_10 I38)) ?_
          refine ov_blk (ls2 := [(0, ov_r 90), (1, ov_i x), (2, ov_i y), (3, ov_i t), (4, ov_i sn), (5, ov_i v2), (6, ov_i v5), (7, ov_i v22), (8, ov_i v25)]) (st2 := [ov_r 90, ov_i 280, ov_r 96, ov_r 90]) (pc2 := 241) b_276_237_2 rfl rfl ?_
          refine ov_getf (v := ov_i (h 90 26)) d_276_241 fl_Mo_116 (zb_90 I38) (zs_90 I38) rfl ?_
          refine ov_blk (ls2 := [(0, ov_r 90), (1, ov_i x), (2, ov_i y), (3, ov_i t), (4, ov_i sn), (5, ov_i v2), (6, ov_i v5), (7, ov_i v22), (8, ov_i v25)]) (st2 := [ov_i ((280 + (h 90 26)) - 4), ov_r 96, ov_r 90]) (pc2 := 247) b_276_244_3 rfl rfl ?_
          refine ov_iald d_276_247 (zb_96 I38) (zs_96 I38) (by omega) ?_
          show ov_R u d ov_m276 248 [(0, ov_r 90), (1, ov_i x), (2, ov_i y), (3, ov_i t), (4, ov_i sn), (5, ov_i v2), (6, ov_i v5), (7, ov_i v22), (8, ov_i v25)] [ov_i (h 96 ((280 + (h 90 26)) - 4)), ov_r 90] z (ov_up (ov_up (ov_up (ov_up h 101 0 v22) 101 1 v25) 101 2 ((v32 - 1) - x)) 101 3 ((v36 - 1) - y)) (P_Mo_wayOf_90 F z h go wt sf sm x y t sn)
          have g40 := g96 I ((280 + (h 90 26)) - 4)
          have cm := c96m I (k := 280 + (h 90 26) - 4) (by omega)
          have rn : ov_rn (h 97) (h 98) (h 96 ((280 + (h 90 26)) - 4)) 0 := by have q := CD (go - 4) (by omega) (by omega); rw [show 280 + (go - 4) = (280 + (h 90 26)) - 4 by omega] at q; exact q
          refine ov_cV (as := [ov_i (h 96 ((280 + (h 90 26)) - 4))]) (st := []) (d2 := d - 1) d_276_248 lk_Mo_380 rfl (Nat.le_of_ble_eq_true rfl) (c := 1) (zb_90 I38) (zs_90 I38) ⟨by decide, rfl⟩ (by omega) (c_Mo_worthAt_90 (d - 1) (by omega) U I38 (h 96 ((280 + (h 90 26)) - 4)) (by omega) (by omega) rn) ?_
          rintro _ z59 h60 ⟨v42, rfl, I61, f41, e43, e44, e45, e46, e47, e48, e49, e50, e51, e52, e53, e54, e55, e56, e57, e58⟩
          have E62 : h60 91 = h 91 := e43
          have E63 : h60 92 = h 92 := e44
          have E64 : h60 93 = h 93 := e45
          have E65 : h60 94 = h 94 := e46
          have E66 : h60 95 = h 95 := e47
          have E67 : h60 96 = h 96 := e48
          have E68 : h60 97 = h 97 := e49
          have E69 : h60 98 = h 98 := e50
          have E70 : h60 99 = h 99 := e51
          have E71 : h60 100 = h 100 := e52
          have E72 : h60 103 = h 103 := e53
          have E73 : h60 104 = h 104 := e54
          have E74 : h60 105 = h 105 := e55
          have E75 : h60 106 = h 106 := e56
          have E76 : h60 109 = h 109 := e57
          have E77 : h60 114 = h 114 := e58
          show ov_R u d ov_m276 251 [(0, ov_r 90), (1, ov_i x), (2, ov_i y), (3, ov_i t), (4, ov_i sn), (5, ov_i v2), (6, ov_i v5), (7, ov_i v22), (8, ov_i v25)] [ov_i v42] z59 h60 (P_Mo_wayOf_90 F z h go wt sf sm x y t sn)
          have f78 : (h60 90 2) = (h 90 2) ∧ (h60 90 7) = (h 90 7) ∧ (h60 90 8) = (h 90 8) ∧ (h60 90 13) = (h 90 13) ∧ (h60 90 20) = (h 90 20) ∧ (h60 90 22) = (h 90 22) ∧ (h60 90 25) = (h 90 25) ∧ (h60 90 26) = (h 90 26) ∧ (h60 90 28) = (h 90 28) ∧ (h60 90 29) = (h 90 29) ∧ (h60 90 30) = (h 90 30) ∧ (h60 90 34) = (h 90 34) ∧ v42 = ov_ev (h 97) (h 98) ((ov_up (ov_up (ov_up (ov_up h 101 0 v22) 101 1 v25) 101 2 ((v32 - 1) - x)) 101 3 ((v36 - 1) - y)) 101) 1101 (h 96 ((280 + (h 90 26)) - 4)) 0 (h 102) ∧ -2147483648 ≤ v42 ∧ v42 ≤ 2147483647 := f41
          clear f41
          have fe : v42 = ov_ev (h 97) (h 98) ((ov_up (ov_up (ov_up (ov_up h 101 0 v22) 101 1 v25) 101 2 ((v32 - 1) - x)) 101 3 ((v36 - 1) - y)) 101) 1101 (h 96 ((280 + (h 90 26)) - 4)) 0 (h 102) := by omega
          have er : v42 = ov_rw (h 97) (h 98) (ov_fa v22 v25 ((v32 - 1) - x) ((v36 - 1) - y)) (h 96 ((280 + (h 90 26)) - 4)) := fe.trans (ov_rw_of rn (fun j h1 h2 => ov_fa4 h1 h2))
          have er2 : v42 = ov_rw (h 97) (h 98) (ov_fa (ov_wm (h 96) (6 * y + x) 0 sn) (ov_wm (h 96) (6 * y + x) 1 sn) (h 96 0 - 1 - x) (h 96 1 - 1 - y)) (h 96 (280 + go - 4)) := by rw [er, show v22 = ov_wm (h 96) (6 * y + x) 0 sn by omega, show v25 = ov_wm (h 96) (6 * y + x) 1 sn by omega, show ((v32 - 1) - x) = h 96 0 - 1 - x by omega, show ((v36 - 1) - y) = h 96 1 - 1 - y by omega, show 280 + (h 90 26) - 4 = 280 + go - 4 by omega]
          refine ov_ifeq (tgt := 258) d_276_251 (by decide) (by omega) (fun c79 => ?_) (fun c79 => ?_)
          · skip
            refine ov_blk (ls2 := [(0, ov_r 90), (1, ov_i x), (2, ov_i y), (3, ov_i t), (4, ov_i sn), (5, ov_i v2), (6, ov_i v5), (7, ov_i v22), (8, ov_i v25)]) (st2 := [ov_i 1]) (pc2 := 259) b_276_258_1 rfl rfl ?_
            have ey : ov_wy (h 96) (h 97) (h 98) go x y sn = 1 := by unfold ov_wy; repeat (first | rw [if_pos (by omega)] | rw [if_neg (by omega)])
            exact ov_reti (st := []) d_276_259 rfl ⟨_, rfl, I61, (by show (h60 90 2) = (h 90 2) ∧ (h60 90 7) = (h 90 7) ∧ (h60 90 8) = (h 90 8) ∧ (h60 90 13) = (h 90 13) ∧ (h60 90 20) = (h 90 20) ∧ (h60 90 22) = (h 90 22) ∧ (h60 90 25) = (h 90 25) ∧ (h60 90 26) = (h 90 26) ∧ (h60 90 28) = (h 90 28) ∧ (h60 90 29) = (h 90 29) ∧ (h60 90 30) = (h 90 30) ∧ (h60 90 34) = (h 90 34) ∧ -1 ≤ 1 ∧ 1 ≤ 1; omega), E62, E63, E64, E65, E66, E67, E68, E69, E70, E71, E72, E73, E76, E77, (by show ov_MI (h 96) (h 103) (h 97) (h 98) go wt sf sm (h60 105) (h60 106); rw [show h60 105 = h 105 from E74, show h60 106 = h 106 from E75]; exact MI), (ov_wf_o (by omega) (by omega) ey)⟩
          · skip
            refine ov_blk (ls2 := [(0, ov_r 90), (1, ov_i x), (2, ov_i y), (3, ov_i t), (4, ov_i sn), (5, ov_i v2), (6, ov_i v5), (7, ov_i v22), (8, ov_i v25)]) (st2 := [ov_i 0]) (pc2 := 255) b_276_254_1 rfl rfl ?_
            refine ov_goto (tgt := 259) d_276_255 (by decide) ?_
            have ey : ov_wy (h 96) (h 97) (h 98) go x y sn = 0 := by unfold ov_wy; repeat (first | rw [if_pos (by omega)] | rw [if_neg (by omega)])
            exact ov_reti (st := []) d_276_259 rfl ⟨_, rfl, I61, (by show (h60 90 2) = (h 90 2) ∧ (h60 90 7) = (h 90 7) ∧ (h60 90 8) = (h 90 8) ∧ (h60 90 13) = (h 90 13) ∧ (h60 90 20) = (h 90 20) ∧ (h60 90 22) = (h 90 22) ∧ (h60 90 25) = (h 90 25) ∧ (h60 90 26) = (h 90 26) ∧ (h60 90 28) = (h 90 28) ∧ (h60 90 29) = (h 90 29) ∧ (h60 90 30) = (h 90 30) ∧ (h60 90 34) = (h 90 34) ∧ -1 ≤ 0 ∧ 0 ≤ 1; omega), E62, E63, E64, E65, E66, E67, E68, E69, E70, E71, E72, E73, E76, E77, (by show ov_MI (h 96) (h 103) (h 97) (h 98) go wt sf sm (h60 105) (h60 106); rw [show h60 105 = h 105 from E74, show h60 106 = h 106 from E75]; exact MI), (ov_wf_o (by omega) (by omega) ey)⟩
        · skip
          refine ov_blk (ls2 := [(0, ov_r 90), (1, ov_i x), (2, ov_i y), (3, ov_i t), (4, ov_i sn), (5, ov_i v2), (6, ov_i v5), (7, ov_i v22), (8, ov_i v25)]) (st2 := [ov_r 90]) (pc2 := 161) b_276_160_1 rfl rfl ?_
          refine ov_getf (v := ov_i (h 90 26)) d_276_161 fl_Mo_116 (zb_90 I) (zs_90 I) rfl ?_
          refine ov_blk (ls2 := [(0, ov_r 90), (1, ov_i x), (2, ov_i y), (3, ov_i t), (4, ov_i sn), (5, ov_i v2), (6, ov_i v5), (7, ov_i v22), (8, ov_i v25)]) (st2 := [ov_i 2, ov_i (h 90 26)]) (pc2 := 165) b_276_164_1 rfl rfl ?_
          refine ov_icge (tgt := 175) d_276_165 (by decide) (by omega) (by omega) (fun c81 => ?_) (fun c81 => ?_)
          · skip
            refine ov_blk (ls2 := [(0, ov_r 90), (1, ov_i x), (2, ov_i y), (3, ov_i t), (4, ov_i sn), (5, ov_i v2), (6, ov_i v5), (7, ov_i v22), (8, ov_i v25)]) (st2 := [ov_i v25, ov_i v22]) (pc2 := 179) b_276_175_2 rfl rfl ?_
            refine ov_icgt (tgt := 186) d_276_179 (by decide) (by omega) (by omega) (fun c82 => ?_) (fun c82 => ?_)
            · skip
              refine ov_blk (ls2 := [(0, ov_r 90), (1, ov_i x), (2, ov_i y), (3, ov_i t), (4, ov_i sn), (5, ov_i v2), (6, ov_i v5), (7, ov_i v22), (8, ov_i v25)]) (st2 := [ov_i 1]) (pc2 := 187) b_276_186_1 rfl rfl ?_
              have ey : ov_wy (h 96) (h 97) (h 98) go x y sn = 1 := by unfold ov_wy; repeat (first | rw [if_pos (by omega)] | rw [if_neg (by omega)])
              exact ov_reti (st := []) d_276_187 rfl ⟨_, rfl, I, ⟨rfl, rfl, rfl, rfl, rfl, rfl, rfl, rfl, rfl, rfl, rfl, rfl, (by show -1 ≤ 1 ∧ 1 ≤ 1; omega)⟩, rfl, rfl, rfl, rfl, rfl, rfl, rfl, rfl, rfl, rfl, rfl, rfl, rfl, rfl, MI, (ov_wf_o (by omega) (by omega) ey)⟩
            · skip
              refine ov_blk (ls2 := [(0, ov_r 90), (1, ov_i x), (2, ov_i y), (3, ov_i t), (4, ov_i sn), (5, ov_i v2), (6, ov_i v5), (7, ov_i v22), (8, ov_i v25)]) (st2 := [ov_i 0]) (pc2 := 183) b_276_182_1 rfl rfl ?_
              refine ov_goto (tgt := 187) d_276_183 (by decide) ?_
              have ey : ov_wy (h 96) (h 97) (h 98) go x y sn = 0 := by unfold ov_wy; repeat (first | rw [if_pos (by omega)] | rw [if_neg (by omega)])
              exact ov_reti (st := []) d_276_187 rfl ⟨_, rfl, I, ⟨rfl, rfl, rfl, rfl, rfl, rfl, rfl, rfl, rfl, rfl, rfl, rfl, (by show -1 ≤ 0 ∧ 0 ≤ 1; omega)⟩, rfl, rfl, rfl, rfl, rfl, rfl, rfl, rfl, rfl, rfl, rfl, rfl, rfl, rfl, MI, (ov_wf_o (by omega) (by omega) ey)⟩
          · skip
            refine ov_blk (ls2 := [(0, ov_r 90), (1, ov_i x), (2, ov_i y), (3, ov_i t), (4, ov_i sn), (5, ov_i v2), (6, ov_i v5), (7, ov_i v22), (8, ov_i v25)]) (st2 := [ov_r 90]) (pc2 := 169) b_276_168_1 rfl rfl ?_
            refine ov_getf (v := ov_i (h 90 26)) d_276_169 fl_Mo_116 (zb_90 I) (zs_90 I) rfl ?_
            refine ov_goto (tgt := 187) d_276_172 (by decide) ?_
            have ey : ov_wy (h 96) (h 97) (h 98) go x y sn = (h 90 26) := by unfold ov_wy; repeat (first | rw [if_pos (by omega)] | rw [if_neg (by omega)]); omega
            exact ov_reti (st := []) d_276_187 rfl ⟨_, rfl, I, ⟨rfl, rfl, rfl, rfl, rfl, rfl, rfl, rfl, rfl, rfl, rfl, rfl, (by show -1 ≤ (h 90 26) ∧ (h 90 26) ≤ 1; omega)⟩, rfl, rfl, rfl, rfl, rfl, rfl, rfl, rfl, rfl, rfl, rfl, rfl, rfl, rfl, MI, (ov_wf_o (by omega) (by omega) ey)⟩
      · skip
        have f6_ : v5 = 0 := by omega
        have f84 : v5 = ov_cgi (h 96) x y (1 : Int) := f6.2.1
        clear f6
        refine ov_blk (ls2 := [(0, ov_r 90), (1, ov_i x), (2, ov_i y), (3, ov_i t), (4, ov_i sn), (5, ov_i v2), (6, ov_i v5)]) (st2 := [ov_i v2]) (pc2 := 112) b_276_110_1 rfl rfl ?_
        refine ov_ifeq (tgt := 119) d_276_112 (by decide) (by omega) (fun c85 => ?_) (fun c85 => ?_)
        · omega
        · skip
          refine ov_blk (ls2 := [(0, ov_r 90), (1, ov_i x), (2, ov_i y), (3, ov_i t), (4, ov_i sn), (5, ov_i v2), (6, ov_i v5)]) (st2 := [ov_i 0]) (pc2 := 116) b_276_115_1 rfl rfl ?_
          refine ov_goto (tgt := 129) d_276_116 (by decide) ?_
          have ey : ov_wy (h 96) (h 97) (h 98) go x y sn = 0 := by unfold ov_wy; repeat (first | rw [if_pos (by omega)] | rw [if_neg (by omega)])
          exact ov_reti (st := []) d_276_129 rfl ⟨_, rfl, I, ⟨rfl, rfl, rfl, rfl, rfl, rfl, rfl, rfl, rfl, rfl, rfl, rfl, (by show -1 ≤ 0 ∧ 0 ≤ 1; omega)⟩, rfl, rfl, rfl, rfl, rfl, rfl, rfl, rfl, rfl, rfl, rfl, rfl, rfl, rfl, MI, (ov_wf_o (by omega) (by omega) ey)⟩
  · skip
    refine ov_blk (ls2 := [(0, ov_r 90), (1, ov_i x), (2, ov_i y), (3, ov_i t), (4, ov_i sn), (5, ov_i v2), (6, ov_i v5)]) (st2 := [ov_i v2]) (pc2 := 28) b_276_26_1 rfl rfl ?_
    refine ov_ifeq (tgt := 44) d_276_28 (by decide) (by omega) (fun c86 => ?_) (fun c86 => ?_)
    · skip
      have f3_ : v2 = 0 := by omega
      have f87 : v2 = ov_cgi (h 96) x y (0 : Int) := f3.2.1
      clear f3
      refine ov_blk (ls2 := [(0, ov_r 90), (1, ov_i x), (2, ov_i y), (3, ov_i t), (4, ov_i sn), (5, ov_i v2), (6, ov_i v5)]) (st2 := [ov_i (-1)]) (pc2 := 45) b_276_44_1 rfl rfl ?_
      refine ov_blk (ls2 := [(0, ov_r 90), (1, ov_i x), (2, ov_i y), (3, ov_i t), (4, ov_i sn), (5, ov_i v2), (6, ov_i v5), (7, ov_i (-1))]) (st2 := [ov_i v5]) (pc2 := 49) b_276_45_2 rfl rfl ?_
      refine ov_ifeq (tgt := 65) d_276_49 (by decide) (by omega) (fun c88 => ?_) (fun c88 => ?_)
      · skip
        have f6_ : v5 = 0 := by omega
        have f89 : v5 = ov_cgi (h 96) x y (1 : Int) := f6.2.1
        clear f6
        refine ov_blk (ls2 := [(0, ov_r 90), (1, ov_i x), (2, ov_i y), (3, ov_i t), (4, ov_i sn), (5, ov_i v2), (6, ov_i v5), (7, ov_i (-1))]) (st2 := [ov_i (-1)]) (pc2 := 66) b_276_65_1 rfl rfl ?_
        refine ov_blk (ls2 := [(0, ov_r 90), (1, ov_i x), (2, ov_i y), (3, ov_i t), (4, ov_i sn), (5, ov_i v2), (6, ov_i v5), (7, ov_i (-1)), (8, ov_i (-1))]) (st2 := [ov_i (-1)]) (pc2 := 70) b_276_66_2 rfl rfl ?_
        refine ov_iflt (tgt := 89) d_276_70 (by decide) (by omega) (fun c90 => ?_) (fun c90 => ?_)
        · skip
          refine ov_blk (ls2 := [(0, ov_r 90), (1, ov_i x), (2, ov_i y), (3, ov_i t), (4, ov_i sn), (5, ov_i v2), (6, ov_i v5), (7, ov_i (-1)), (8, ov_i (-1))]) (st2 := [ov_i (-1)]) (pc2 := 91) b_276_89_1 rfl rfl ?_
          refine ov_iflt (tgt := 98) d_276_91 (by decide) (by omega) (fun c91 => ?_) (fun c91 => ?_)
          · skip
            refine ov_blk (ls2 := [(0, ov_r 90), (1, ov_i x), (2, ov_i y), (3, ov_i t), (4, ov_i sn), (5, ov_i v2), (6, ov_i v5), (7, ov_i (-1)), (8, ov_i (-1))]) (st2 := [ov_i (-1)]) (pc2 := 99) b_276_98_1 rfl rfl ?_
            exact ov_reti (st := []) d_276_99 rfl ⟨_, rfl, I, ⟨rfl, rfl, rfl, rfl, rfl, rfl, rfl, rfl, rfl, rfl, rfl, rfl, (by show -1 ≤ (-1) ∧ (-1) ≤ 1; omega)⟩, rfl, rfl, rfl, rfl, rfl, rfl, rfl, rfl, rfl, rfl, rfl, rfl, rfl, rfl, MI, (ov_wf_3 (a := (-1)) (b := (-1)) (by omega) (iff_of_false (by decide) (fun q => absurd q.1 (by omega))) (iff_of_false (by decide) (fun q => absurd q.1 (by omega))) (by omega))⟩
          · omega
        · omega
      · skip
        have f6_ : v5 = 1 := by omega
        have f92 : v5 = ov_cgi (h 96) x y (1 : Int) := f6.2.1
        have f93 : (((1 : Int) = 0 → x < (h 96 0) - 1) ∧ (¬ (1 : Int) = 0 → y < (h 96 1) - 1)) ∧ (((h 96 (10 + 4 * (6 * y + x))) = 1 ∨ (h 96 (10 + 4 * (6 * y + x))) = 2) → ((1 : Int) = 0 → 0 < (h 96 (10 + 4 * (6 * y + x) + 3))) ∧ (¬ (1 : Int) = 0 → (h 96 (10 + 4 * (6 * y + x) + 3)) < (h 96 (10 + 4 * (6 * y + x) + 1)))) := f6.2.2 (by omega)
        clear f6
        refine ov_blk (ls2 := [(0, ov_r 90), (1, ov_i x), (2, ov_i y), (3, ov_i t), (4, ov_i sn), (5, ov_i v2), (6, ov_i v5), (7, ov_i (-1))]) (st2 := [ov_i sn, ov_i t, ov_i 1, ov_i y, ov_i x, ov_r 90]) (pc2 := 59) b_276_52_6 rfl rfl ?_
        refine ov_cV (as := [ov_i x, ov_i y, ov_i 1, ov_i t, ov_i sn]) (st := []) (d2 := d - 1) d_276_59 lk_Mo_374 rfl (Nat.le_of_ble_eq_true rfl) (c := 1) (zb_90 I) (zs_90 I) ⟨by decide, rfl⟩ (by omega) (c_Mo_worthBy_90 go wt sf sm k HV (d - 1) (by omega) U I x y 1 t sn (by omega) (by omega) (by omega) (by omega) (by omega) (by omega) (by show x < (h 96 0) ∧ y < (h 96 1); omega) (by omega) (by omega) (by show 0 ≤ t ∧ t < (h 96 9); omega) (by omega) (by show (((1 : Int) = 0 → x < (h 96 0) - 1) ∧ (¬ (1 : Int) = 0 → y < (h 96 1) - 1)) ∧ (((h 96 (10 + 4 * (6 * y + x))) = 1 ∨ (h 96 (10 + 4 * (6 * y + x))) = 2) → ((1 : Int) = 0 → 0 < (h 96 (10 + 4 * (6 * y + x) + 3))) ∧ (¬ (1 : Int) = 0 → (h 96 (10 + 4 * (6 * y + x) + 3)) < (h 96 (10 + 4 * (6 * y + x) + 1)))); omega) (by show (h 90 26) = go; omega) (by show (h 90 29) = wt; omega) (by show (h 90 30) = sf; omega) (by show (h 90 25) = sm; omega) (by show 0 ≤ go ∧ go ≤ 3 + (h 96 8); omega) W CD MI) ?_
        rintro _ z112 h113 ⟨v95, rfl, I114, f94, e96, e97, e98, e99, e100, e101, e102, e103, e104, e105, e106, e107, e108, e109, y110, y111⟩
        have E115 : h113 91 = h 91 := e96
        have E116 : h113 92 = h 92 := e97
        have E117 : h113 93 = h 93 := e98
        have E118 : h113 94 = h 94 := e99
        have E119 : h113 95 = h 95 := e100
        have E120 : h113 96 = h 96 := e101
        have E121 : h113 97 = h 97 := e102
        have E122 : h113 98 = h 98 := e103
        have E123 : h113 99 = h 99 := e104
        have E124 : h113 100 = h 100 := e105
        have E125 : h113 103 = h 103 := e106
        have E126 : h113 104 = h 104 := e107
        have E127 : h113 109 = h 109 := e108
        have E128 : h113 114 = h 114 := e109
        show ov_R u d ov_m276 62 [(0, ov_r 90), (1, ov_i x), (2, ov_i y), (3, ov_i t), (4, ov_i sn), (5, ov_i v2), (6, ov_i v5), (7, ov_i (-1))] [ov_i v95] z112 h113 (P_Mo_wayOf_90 F z h go wt sf sm x y t sn)
        have f129 : (h113 90 2) = (h 90 2) ∧ (h113 90 7) = (h 90 7) ∧ (h113 90 8) = (h 90 8) ∧ (h113 90 13) = (h 90 13) ∧ (h113 90 20) = (h 90 20) ∧ (h113 90 22) = (h 90 22) ∧ (h113 90 25) = (h 90 25) ∧ (h113 90 26) = (h 90 26) ∧ (h113 90 28) = (h 90 28) ∧ (h113 90 29) = (h 90 29) ∧ (h113 90 30) = (h 90 30) ∧ (h113 90 34) = (h 90 34) ∧ -1 ≤ v95 ∧ v95 ≤ 89000 * (13 - x - y) := f94
        clear f94
        have y110_ : ov_MI (h 96) (h 103) (h 97) (h 98) go wt sf sm (h113 105) (h113 106) := y110
        have y111_ : (0 ≤ v95 ↔ ov_go (h 96) (h 103) (h 97) (h 98) go wt sf (x + 1 - (1 : Int)) (y + (1 : Int)) (ov_nx (h 96) t (ov_wm (h 96) (6 * y + x) (1 : Int) sn))) := y111
        refine ov_goto (tgt := 66) d_276_62 (by decide) ?_
        refine ov_blk (ls2 := [(0, ov_r 90), (1, ov_i x), (2, ov_i y), (3, ov_i t), (4, ov_i sn), (5, ov_i v2), (6, ov_i v5), (7, ov_i (-1)), (8, ov_i v95)]) (st2 := [ov_i (-1)]) (pc2 := 70) b_276_66_2 rfl rfl ?_
        refine ov_iflt (tgt := 89) d_276_70 (by decide) (by omega) (fun c130 => ?_) (fun c130 => ?_)
        · skip
          refine ov_blk (ls2 := [(0, ov_r 90), (1, ov_i x), (2, ov_i y), (3, ov_i t), (4, ov_i sn), (5, ov_i v2), (6, ov_i v5), (7, ov_i (-1)), (8, ov_i v95)]) (st2 := [ov_i v95]) (pc2 := 91) b_276_89_1 rfl rfl ?_
          refine ov_iflt (tgt := 98) d_276_91 (by decide) (by omega) (fun c131 => ?_) (fun c131 => ?_)
          · skip
            refine ov_blk (ls2 := [(0, ov_r 90), (1, ov_i x), (2, ov_i y), (3, ov_i t), (4, ov_i sn), (5, ov_i v2), (6, ov_i v5), (7, ov_i (-1)), (8, ov_i v95)]) (st2 := [ov_i (-1)]) (pc2 := 99) b_276_98_1 rfl rfl ?_
            exact ov_reti (st := []) d_276_99 rfl ⟨_, rfl, I114, (by show (h113 90 2) = (h 90 2) ∧ (h113 90 7) = (h 90 7) ∧ (h113 90 8) = (h 90 8) ∧ (h113 90 13) = (h 90 13) ∧ (h113 90 20) = (h 90 20) ∧ (h113 90 22) = (h 90 22) ∧ (h113 90 25) = (h 90 25) ∧ (h113 90 26) = (h 90 26) ∧ (h113 90 28) = (h 90 28) ∧ (h113 90 29) = (h 90 29) ∧ (h113 90 30) = (h 90 30) ∧ (h113 90 34) = (h 90 34) ∧ -1 ≤ (-1) ∧ (-1) ≤ 1; omega), E115, E116, E117, E118, E119, E120, E121, E122, E123, E124, E125, E126, E127, E128, y110_, (ov_wf_3 (a := (-1)) (b := v95) (by omega) (iff_of_false (by decide) (fun q => absurd q.1 (by omega))) ⟨fun q => ⟨by omega, y111_.mp q⟩, fun q => y111_.mpr q.2⟩ (by omega))⟩
          · skip
            refine ov_blk (ls2 := [(0, ov_r 90), (1, ov_i x), (2, ov_i y), (3, ov_i t), (4, ov_i sn), (5, ov_i v2), (6, ov_i v5), (7, ov_i (-1)), (8, ov_i v95)]) (st2 := [ov_i 1]) (pc2 := 95) b_276_94_1 rfl rfl ?_
            refine ov_goto (tgt := 99) d_276_95 (by decide) ?_
            exact ov_reti (st := []) d_276_99 rfl ⟨_, rfl, I114, (by show (h113 90 2) = (h 90 2) ∧ (h113 90 7) = (h 90 7) ∧ (h113 90 8) = (h 90 8) ∧ (h113 90 13) = (h 90 13) ∧ (h113 90 20) = (h 90 20) ∧ (h113 90 22) = (h 90 22) ∧ (h113 90 25) = (h 90 25) ∧ (h113 90 26) = (h 90 26) ∧ (h113 90 28) = (h 90 28) ∧ (h113 90 29) = (h 90 29) ∧ (h113 90 30) = (h 90 30) ∧ (h113 90 34) = (h 90 34) ∧ -1 ≤ 1 ∧ 1 ≤ 1; omega), E115, E116, E117, E118, E119, E120, E121, E122, E123, E124, E125, E126, E127, E128, y110_, (ov_wf_3 (a := (-1)) (b := v95) (by omega) (iff_of_false (by decide) (fun q => absurd q.1 (by omega))) ⟨fun q => ⟨by omega, y111_.mp q⟩, fun q => y111_.mpr q.2⟩ (by omega))⟩
        · omega
    · skip
      have f3_ : v2 = 1 := by omega
      have f132 : v2 = ov_cgi (h 96) x y (0 : Int) := f3.2.1
      have f133 : (((0 : Int) = 0 → x < (h 96 0) - 1) ∧ (¬ (0 : Int) = 0 → y < (h 96 1) - 1)) ∧ (((h 96 (10 + 4 * (6 * y + x))) = 1 ∨ (h 96 (10 + 4 * (6 * y + x))) = 2) → ((0 : Int) = 0 → 0 < (h 96 (10 + 4 * (6 * y + x) + 3))) ∧ (¬ (0 : Int) = 0 → (h 96 (10 + 4 * (6 * y + x) + 3)) < (h 96 (10 + 4 * (6 * y + x) + 1)))) := f3.2.2 (by omega)
      clear f3
      refine ov_blk (ls2 := [(0, ov_r 90), (1, ov_i x), (2, ov_i y), (3, ov_i t), (4, ov_i sn), (5, ov_i v2), (6, ov_i v5)]) (st2 := [ov_i sn, ov_i t, ov_i 0, ov_i y, ov_i x, ov_r 90]) (pc2 := 38) b_276_31_6 rfl rfl ?_
      refine ov_cV (as := [ov_i x, ov_i y, ov_i 0, ov_i t, ov_i sn]) (st := []) (d2 := d - 1) d_276_38 lk_Mo_374 rfl (Nat.le_of_ble_eq_true rfl) (c := 1) (zb_90 I) (zs_90 I) ⟨by decide, rfl⟩ (by omega) (c_Mo_worthBy_90 go wt sf sm k HV (d - 1) (by omega) U I x y 0 t sn (by omega) (by omega) (by omega) (by omega) (by omega) (by omega) (by show x < (h 96 0) ∧ y < (h 96 1); omega) (by omega) (by omega) (by show 0 ≤ t ∧ t < (h 96 9); omega) (by omega) (by show (((0 : Int) = 0 → x < (h 96 0) - 1) ∧ (¬ (0 : Int) = 0 → y < (h 96 1) - 1)) ∧ (((h 96 (10 + 4 * (6 * y + x))) = 1 ∨ (h 96 (10 + 4 * (6 * y + x))) = 2) → ((0 : Int) = 0 → 0 < (h 96 (10 + 4 * (6 * y + x) + 3))) ∧ (¬ (0 : Int) = 0 → (h 96 (10 + 4 * (6 * y + x) + 3)) < (h 96 (10 + 4 * (6 * y + x) + 1)))); omega) (by show (h 90 26) = go; omega) (by show (h 90 29) = wt; omega) (by show (h 90 30) = sf; omega) (by show (h 90 25) = sm; omega) (by show 0 ≤ go ∧ go ≤ 3 + (h 96 8); omega) W CD MI) ?_
      rintro _ z152 h153 ⟨v135, rfl, I154, f134, e136, e137, e138, e139, e140, e141, e142, e143, e144, e145, e146, e147, e148, e149, y150, y151⟩
      have E155 : h153 91 = h 91 := e136
      have E156 : h153 92 = h 92 := e137
      have E157 : h153 93 = h 93 := e138
      have E158 : h153 94 = h 94 := e139
      have E159 : h153 95 = h 95 := e140
      have E160 : h153 96 = h 96 := e141
      have E161 : h153 97 = h 97 := e142
      have E162 : h153 98 = h 98 := e143
      have E163 : h153 99 = h 99 := e144
      have E164 : h153 100 = h 100 := e145
      have E165 : h153 103 = h 103 := e146
      have E166 : h153 104 = h 104 := e147
      have E167 : h153 109 = h 109 := e148
      have E168 : h153 114 = h 114 := e149
      show ov_R u d ov_m276 41 [(0, ov_r 90), (1, ov_i x), (2, ov_i y), (3, ov_i t), (4, ov_i sn), (5, ov_i v2), (6, ov_i v5)] [ov_i v135] z152 h153 (P_Mo_wayOf_90 F z h go wt sf sm x y t sn)
      have f169 : (h153 90 2) = (h 90 2) ∧ (h153 90 7) = (h 90 7) ∧ (h153 90 8) = (h 90 8) ∧ (h153 90 13) = (h 90 13) ∧ (h153 90 20) = (h 90 20) ∧ (h153 90 22) = (h 90 22) ∧ (h153 90 25) = (h 90 25) ∧ (h153 90 26) = (h 90 26) ∧ (h153 90 28) = (h 90 28) ∧ (h153 90 29) = (h 90 29) ∧ (h153 90 30) = (h 90 30) ∧ (h153 90 34) = (h 90 34) ∧ -1 ≤ v135 ∧ v135 ≤ 89000 * (13 - x - y) := f134
      clear f134
      have y150_ : ov_MI (h 96) (h 103) (h 97) (h 98) go wt sf sm (h153 105) (h153 106) := y150
      have y151_ : (0 ≤ v135 ↔ ov_go (h 96) (h 103) (h 97) (h 98) go wt sf (x + 1 - (0 : Int)) (y + (0 : Int)) (ov_nx (h 96) t (ov_wm (h 96) (6 * y + x) (0 : Int) sn))) := y151
      refine ov_goto (tgt := 45) d_276_41 (by decide) ?_
      refine ov_blk (ls2 := [(0, ov_r 90), (1, ov_i x), (2, ov_i y), (3, ov_i t), (4, ov_i sn), (5, ov_i v2), (6, ov_i v5), (7, ov_i v135)]) (st2 := [ov_i v5]) (pc2 := 49) b_276_45_2 rfl rfl ?_
      refine ov_ifeq (tgt := 65) d_276_49 (by decide) (by omega) (fun c170 => ?_) (fun c170 => ?_)
      · skip
        have f6_ : v5 = 0 := by omega
        have f171 : v5 = ov_cgi (h 96) x y (1 : Int) := f6.2.1
        clear f6
        refine ov_blk (ls2 := [(0, ov_r 90), (1, ov_i x), (2, ov_i y), (3, ov_i t), (4, ov_i sn), (5, ov_i v2), (6, ov_i v5), (7, ov_i v135)]) (st2 := [ov_i (-1)]) (pc2 := 66) b_276_65_1 rfl rfl ?_
        refine ov_blk (ls2 := [(0, ov_r 90), (1, ov_i x), (2, ov_i y), (3, ov_i t), (4, ov_i sn), (5, ov_i v2), (6, ov_i v5), (7, ov_i v135), (8, ov_i (-1))]) (st2 := [ov_i v135]) (pc2 := 70) b_276_66_2 rfl rfl ?_
        refine ov_iflt (tgt := 89) d_276_70 (by decide) (by omega) (fun c172 => ?_) (fun c172 => ?_)
        · skip
          refine ov_blk (ls2 := [(0, ov_r 90), (1, ov_i x), (2, ov_i y), (3, ov_i t), (4, ov_i sn), (5, ov_i v2), (6, ov_i v5), (7, ov_i v135), (8, ov_i (-1))]) (st2 := [ov_i (-1)]) (pc2 := 91) b_276_89_1 rfl rfl ?_
          refine ov_iflt (tgt := 98) d_276_91 (by decide) (by omega) (fun c173 => ?_) (fun c173 => ?_)
          · skip
            refine ov_blk (ls2 := [(0, ov_r 90), (1, ov_i x), (2, ov_i y), (3, ov_i t), (4, ov_i sn), (5, ov_i v2), (6, ov_i v5), (7, ov_i v135), (8, ov_i (-1))]) (st2 := [ov_i (-1)]) (pc2 := 99) b_276_98_1 rfl rfl ?_
            exact ov_reti (st := []) d_276_99 rfl ⟨_, rfl, I154, (by show (h153 90 2) = (h 90 2) ∧ (h153 90 7) = (h 90 7) ∧ (h153 90 8) = (h 90 8) ∧ (h153 90 13) = (h 90 13) ∧ (h153 90 20) = (h 90 20) ∧ (h153 90 22) = (h 90 22) ∧ (h153 90 25) = (h 90 25) ∧ (h153 90 26) = (h 90 26) ∧ (h153 90 28) = (h 90 28) ∧ (h153 90 29) = (h 90 29) ∧ (h153 90 30) = (h 90 30) ∧ (h153 90 34) = (h 90 34) ∧ -1 ≤ (-1) ∧ (-1) ≤ 1; omega), E155, E156, E157, E158, E159, E160, E161, E162, E163, E164, E165, E166, E167, E168, y150_, (ov_wf_3 (a := v135) (b := (-1)) (by omega) ⟨fun q => ⟨by omega, y151_.mp q⟩, fun q => y151_.mpr q.2⟩ (iff_of_false (by decide) (fun q => absurd q.1 (by omega))) (by omega))⟩
          · omega
        · skip
          refine ov_blk (ls2 := [(0, ov_r 90), (1, ov_i x), (2, ov_i y), (3, ov_i t), (4, ov_i sn), (5, ov_i v2), (6, ov_i v5), (7, ov_i v135), (8, ov_i (-1))]) (st2 := [ov_i (-1)]) (pc2 := 75) b_276_73_1 rfl rfl ?_
          refine ov_iflt (tgt := 85) d_276_75 (by decide) (by omega) (fun c174 => ?_) (fun c174 => ?_)
          · skip
            refine ov_blk (ls2 := [(0, ov_r 90), (1, ov_i x), (2, ov_i y), (3, ov_i t), (4, ov_i sn), (5, ov_i v2), (6, ov_i v5), (7, ov_i v135), (8, ov_i (-1))]) (st2 := [ov_i 0]) (pc2 := 86) b_276_85_1 rfl rfl ?_
            refine ov_goto (tgt := 99) d_276_86 (by decide) ?_
            exact ov_reti (st := []) d_276_99 rfl ⟨_, rfl, I154, (by show (h153 90 2) = (h 90 2) ∧ (h153 90 7) = (h 90 7) ∧ (h153 90 8) = (h 90 8) ∧ (h153 90 13) = (h 90 13) ∧ (h153 90 20) = (h 90 20) ∧ (h153 90 22) = (h 90 22) ∧ (h153 90 25) = (h 90 25) ∧ (h153 90 26) = (h 90 26) ∧ (h153 90 28) = (h 90 28) ∧ (h153 90 29) = (h 90 29) ∧ (h153 90 30) = (h 90 30) ∧ (h153 90 34) = (h 90 34) ∧ -1 ≤ 0 ∧ 0 ≤ 1; omega), E155, E156, E157, E158, E159, E160, E161, E162, E163, E164, E165, E166, E167, E168, y150_, (ov_wf_3 (a := v135) (b := (-1)) (by omega) ⟨fun q => ⟨by omega, y151_.mp q⟩, fun q => y151_.mpr q.2⟩ (iff_of_false (by decide) (fun q => absurd q.1 (by omega))) (by omega))⟩
          · omega
      · skip
        have f6_ : v5 = 1 := by omega
        have f175 : v5 = ov_cgi (h 96) x y (1 : Int) := f6.2.1
        have f176 : (((1 : Int) = 0 → x < (h 96 0) - 1) ∧ (¬ (1 : Int) = 0 → y < (h 96 1) - 1)) ∧ (((h 96 (10 + 4 * (6 * y + x))) = 1 ∨ (h 96 (10 + 4 * (6 * y + x))) = 2) → ((1 : Int) = 0 → 0 < (h 96 (10 + 4 * (6 * y + x) + 3))) ∧ (¬ (1 : Int) = 0 → (h 96 (10 + 4 * (6 * y + x) + 3)) < (h 96 (10 + 4 * (6 * y + x) + 1)))) := f6.2.2 (by omega)
        clear f6
        refine ov_blk (ls2 := [(0, ov_r 90), (1, ov_i x), (2, ov_i y), (3, ov_i t), (4, ov_i sn), (5, ov_i v2), (6, ov_i v5), (7, ov_i v135)]) (st2 := [ov_i sn, ov_i t, ov_i 1, ov_i y, ov_i x, ov_r 90]) (pc2 := 59) b_276_52_6 rfl rfl ?_
        have cf177 : h153 96 (0) = h 96 (0) := congrFun E160 (0)
        have cf178 : h153 96 (1) = h 96 (1) := congrFun E160 (1)
        have cf179 : h153 96 (9) = h 96 (9) := congrFun E160 (9)
        have cf180 : h153 96 (10 + 4 * (6 * y + x)) = h 96 (10 + 4 * (6 * y + x)) := congrFun E160 (10 + 4 * (6 * y + x))
        have cf181 : h153 96 (10 + 4 * (6 * y + x) + 3) = h 96 (10 + 4 * (6 * y + x) + 3) := congrFun E160 (10 + 4 * (6 * y + x) + 3)
        have cf182 : h153 96 (10 + 4 * (6 * y + x) + 1) = h 96 (10 + 4 * (6 * y + x) + 1) := congrFun E160 (10 + 4 * (6 * y + x) + 1)
        have cf183 : h153 96 (8) = h 96 (8) := congrFun E160 (8)
        refine ov_cV (as := [ov_i x, ov_i y, ov_i 1, ov_i t, ov_i sn]) (st := []) (d2 := d - 1) d_276_59 lk_Mo_374 rfl (Nat.le_of_ble_eq_true rfl) (c := 1) (zb_90 I154) (zs_90 I154) ⟨by decide, rfl⟩ (by omega) (c_Mo_worthBy_90 go wt sf sm k HV (d - 1) (by omega) U I154 x y 1 t sn (by omega) (by omega) (by omega) (by omega) (by omega) (by omega) (by show x < (h153 96 0) ∧ y < (h153 96 1); omega) (by omega) (by omega) (by show 0 ≤ t ∧ t < (h153 96 9); omega) (by omega) (by show (((1 : Int) = 0 → x < (h153 96 0) - 1) ∧ (¬ (1 : Int) = 0 → y < (h153 96 1) - 1)) ∧ (((h153 96 (10 + 4 * (6 * y + x))) = 1 ∨ (h153 96 (10 + 4 * (6 * y + x))) = 2) → ((1 : Int) = 0 → 0 < (h153 96 (10 + 4 * (6 * y + x) + 3))) ∧ (¬ (1 : Int) = 0 → (h153 96 (10 + 4 * (6 * y + x) + 3)) < (h153 96 (10 + 4 * (6 * y + x) + 1)))); omega) (by show (h153 90 26) = go; omega) (by show (h153 90 29) = wt; omega) (by show (h153 90 30) = sf; omega) (by show (h153 90 25) = sm; omega) (by show 0 ≤ go ∧ go ≤ 3 + (h153 96 8); omega) (by rw [show h153 96 = h 96 from E160]; exact W) (by rw [show h153 96 = h 96 from E160, show h153 97 = h 97 from E161, show h153 98 = h 98 from E162]; exact CD) (by rw [show h153 96 = h 96 from E160, show h153 103 = h 103 from E165, show h153 97 = h 97 from E161, show h153 98 = h 98 from E162]; exact y150_)) ?_
        rintro _ z202 h203 ⟨v185, rfl, I204, f184, e186, e187, e188, e189, e190, e191, e192, e193, e194, e195, e196, e197, e198, e199, y200, y201⟩
        have E205 : h203 91 = h 91 := Eq.trans e186 E155
        have E206 : h203 92 = h 92 := Eq.trans e187 E156
        have E207 : h203 93 = h 93 := Eq.trans e188 E157
        have E208 : h203 94 = h 94 := Eq.trans e189 E158
        have E209 : h203 95 = h 95 := Eq.trans e190 E159
        have E210 : h203 96 = h 96 := Eq.trans e191 E160
        have E211 : h203 97 = h 97 := Eq.trans e192 E161
        have E212 : h203 98 = h 98 := Eq.trans e193 E162
        have E213 : h203 99 = h 99 := Eq.trans e194 E163
        have E214 : h203 100 = h 100 := Eq.trans e195 E164
        have E215 : h203 103 = h 103 := Eq.trans e196 E165
        have E216 : h203 104 = h 104 := Eq.trans e197 E166
        have E217 : h203 109 = h 109 := Eq.trans e198 E167
        have E218 : h203 114 = h 114 := Eq.trans e199 E168
        show ov_R u d ov_m276 62 [(0, ov_r 90), (1, ov_i x), (2, ov_i y), (3, ov_i t), (4, ov_i sn), (5, ov_i v2), (6, ov_i v5), (7, ov_i v135)] [ov_i v185] z202 h203 (P_Mo_wayOf_90 F z h go wt sf sm x y t sn)
        have f219 : (h203 90 2) = (h153 90 2) ∧ (h203 90 7) = (h153 90 7) ∧ (h203 90 8) = (h153 90 8) ∧ (h203 90 13) = (h153 90 13) ∧ (h203 90 20) = (h153 90 20) ∧ (h203 90 22) = (h153 90 22) ∧ (h203 90 25) = (h153 90 25) ∧ (h203 90 26) = (h153 90 26) ∧ (h203 90 28) = (h153 90 28) ∧ (h203 90 29) = (h153 90 29) ∧ (h203 90 30) = (h153 90 30) ∧ (h203 90 34) = (h153 90 34) ∧ -1 ≤ v185 ∧ v185 ≤ 89000 * (13 - x - y) := f184
        clear f184
        rw [show h153 103 = h 103 from E165] at y200
        rw [show h153 96 = h 96 from E160] at y200
        rw [show h153 97 = h 97 from E161] at y200
        rw [show h153 98 = h 98 from E162] at y200
        have y200_ : ov_MI (h 96) (h 103) (h 97) (h 98) go wt sf sm (h203 105) (h203 106) := y200
        rw [show h153 103 = h 103 from E165] at y201
        rw [show h153 96 = h 96 from E160] at y201
        rw [show h153 97 = h 97 from E161] at y201
        rw [show h153 98 = h 98 from E162] at y201
        have y201_ : (0 ≤ v185 ↔ ov_go (h 96) (h 103) (h 97) (h 98) go wt sf (x + 1 - (1 : Int)) (y + (1 : Int)) (ov_nx (h 96) t (ov_wm (h 96) (6 * y + x) (1 : Int) sn))) := y201
        refine ov_goto (tgt := 66) d_276_62 (by decide) ?_
        refine ov_blk (ls2 := [(0, ov_r 90), (1, ov_i x), (2, ov_i y), (3, ov_i t), (4, ov_i sn), (5, ov_i v2), (6, ov_i v5), (7, ov_i v135), (8, ov_i v185)]) (st2 := [ov_i v135]) (pc2 := 70) b_276_66_2 rfl rfl ?_
        refine ov_iflt (tgt := 89) d_276_70 (by decide) (by omega) (fun c220 => ?_) (fun c220 => ?_)
        · skip
          refine ov_blk (ls2 := [(0, ov_r 90), (1, ov_i x), (2, ov_i y), (3, ov_i t), (4, ov_i sn), (5, ov_i v2), (6, ov_i v5), (7, ov_i v135), (8, ov_i v185)]) (st2 := [ov_i v185]) (pc2 := 91) b_276_89_1 rfl rfl ?_
          refine ov_iflt (tgt := 98) d_276_91 (by decide) (by omega) (fun c221 => ?_) (fun c221 => ?_)
          · skip
            refine ov_blk (ls2 := [(0, ov_r 90), (1, ov_i x), (2, ov_i y), (3, ov_i t), (4, ov_i sn), (5, ov_i v2), (6, ov_i v5), (7, ov_i v135), (8, ov_i v185)]) (st2 := [ov_i (-1)]) (pc2 := 99) b_276_98_1 rfl rfl ?_
            exact ov_reti (st := []) d_276_99 rfl ⟨_, rfl, I204, (by show (h203 90 2) = (h 90 2) ∧ (h203 90 7) = (h 90 7) ∧ (h203 90 8) = (h 90 8) ∧ (h203 90 13) = (h 90 13) ∧ (h203 90 20) = (h 90 20) ∧ (h203 90 22) = (h 90 22) ∧ (h203 90 25) = (h 90 25) ∧ (h203 90 26) = (h 90 26) ∧ (h203 90 28) = (h 90 28) ∧ (h203 90 29) = (h 90 29) ∧ (h203 90 30) = (h 90 30) ∧ (h203 90 34) = (h 90 34) ∧ -1 ≤ (-1) ∧ (-1) ≤ 1; omega), E205, E206, E207, E208, E209, E210, E211, E212, E213, E214, E215, E216, E217, E218, y200_, (ov_wf_3 (a := v135) (b := v185) (by omega) ⟨fun q => ⟨by omega, y151_.mp q⟩, fun q => y151_.mpr q.2⟩ ⟨fun q => ⟨by omega, y201_.mp q⟩, fun q => y201_.mpr q.2⟩ (by omega))⟩
          · skip
            refine ov_blk (ls2 := [(0, ov_r 90), (1, ov_i x), (2, ov_i y), (3, ov_i t), (4, ov_i sn), (5, ov_i v2), (6, ov_i v5), (7, ov_i v135), (8, ov_i v185)]) (st2 := [ov_i 1]) (pc2 := 95) b_276_94_1 rfl rfl ?_
            refine ov_goto (tgt := 99) d_276_95 (by decide) ?_
            exact ov_reti (st := []) d_276_99 rfl ⟨_, rfl, I204, (by show (h203 90 2) = (h 90 2) ∧ (h203 90 7) = (h 90 7) ∧ (h203 90 8) = (h 90 8) ∧ (h203 90 13) = (h 90 13) ∧ (h203 90 20) = (h 90 20) ∧ (h203 90 22) = (h 90 22) ∧ (h203 90 25) = (h 90 25) ∧ (h203 90 26) = (h 90 26) ∧ (h203 90 28) = (h 90 28) ∧ (h203 90 29) = (h 90 29) ∧ (h203 90 30) = (h 90 30) ∧ (h203 90 34) = (h 90 34) ∧ -1 ≤ 1 ∧ 1 ≤ 1; omega), E205, E206, E207, E208, E209, E210, E211, E212, E213, E214, E215, E216, E217, E218, y200_, (ov_wf_3 (a := v135) (b := v185) (by omega) ⟨fun q => ⟨by omega, y151_.mp q⟩, fun q => y151_.mpr q.2⟩ ⟨fun q => ⟨by omega, y201_.mp q⟩, fun q => y201_.mpr q.2⟩ (by omega))⟩
        · skip
          refine ov_blk (ls2 := [(0, ov_r 90), (1, ov_i x), (2, ov_i y), (3, ov_i t), (4, ov_i sn), (5, ov_i v2), (6, ov_i v5), (7, ov_i v135), (8, ov_i v185)]) (st2 := [ov_i v185]) (pc2 := 75) b_276_73_1 rfl rfl ?_
          refine ov_iflt (tgt := 85) d_276_75 (by decide) (by omega) (fun c222 => ?_) (fun c222 => ?_)
          · skip
            refine ov_blk (ls2 := [(0, ov_r 90), (1, ov_i x), (2, ov_i y), (3, ov_i t), (4, ov_i sn), (5, ov_i v2), (6, ov_i v5), (7, ov_i v135), (8, ov_i v185)]) (st2 := [ov_i 0]) (pc2 := 86) b_276_85_1 rfl rfl ?_
            refine ov_goto (tgt := 99) d_276_86 (by decide) ?_
            exact ov_reti (st := []) d_276_99 rfl ⟨_, rfl, I204, (by show (h203 90 2) = (h 90 2) ∧ (h203 90 7) = (h 90 7) ∧ (h203 90 8) = (h 90 8) ∧ (h203 90 13) = (h 90 13) ∧ (h203 90 20) = (h 90 20) ∧ (h203 90 22) = (h 90 22) ∧ (h203 90 25) = (h 90 25) ∧ (h203 90 26) = (h 90 26) ∧ (h203 90 28) = (h 90 28) ∧ (h203 90 29) = (h 90 29) ∧ (h203 90 30) = (h 90 30) ∧ (h203 90 34) = (h 90 34) ∧ -1 ≤ 0 ∧ 0 ≤ 1; omega), E205, E206, E207, E208, E209, E210, E211, E212, E213, E214, E215, E216, E217, E218, y200_, (ov_wf_3 (a := v135) (b := v185) (by omega) ⟨fun q => ⟨by omega, y151_.mp q⟩, fun q => y151_.mpr q.2⟩ ⟨fun q => ⟨by omega, y201_.mp q⟩, fun q => y201_.mpr q.2⟩ (by omega))⟩
          · skip
            refine ov_blk (ls2 := [(0, ov_r 90), (1, ov_i x), (2, ov_i y), (3, ov_i t), (4, ov_i sn), (5, ov_i v2), (6, ov_i v5), (7, ov_i v135), (8, ov_i v185)]) (st2 := [ov_i v185, ov_i v135]) (pc2 := 82) b_276_78_2 rfl rfl ?_
            refine ov_icgt (tgt := 89) d_276_82 (by decide) (by omega) (by omega) (fun c223 => ?_) (fun c223 => ?_)
            · skip
              refine ov_blk (ls2 := [(0, ov_r 90), (1, ov_i x), (2, ov_i y), (3, ov_i t), (4, ov_i sn), (5, ov_i v2), (6, ov_i v5), (7, ov_i v135), (8, ov_i v185)]) (st2 := [ov_i v185]) (pc2 := 91) b_276_89_1 rfl rfl ?_
              refine ov_iflt (tgt := 98) d_276_91 (by decide) (by omega) (fun c224 => ?_) (fun c224 => ?_)
              · omega
              · skip
                refine ov_blk (ls2 := [(0, ov_r 90), (1, ov_i x), (2, ov_i y), (3, ov_i t), (4, ov_i sn), (5, ov_i v2), (6, ov_i v5), (7, ov_i v135), (8, ov_i v185)]) (st2 := [ov_i 1]) (pc2 := 95) b_276_94_1 rfl rfl ?_
                refine ov_goto (tgt := 99) d_276_95 (by decide) ?_
                exact ov_reti (st := []) d_276_99 rfl ⟨_, rfl, I204, (by show (h203 90 2) = (h 90 2) ∧ (h203 90 7) = (h 90 7) ∧ (h203 90 8) = (h 90 8) ∧ (h203 90 13) = (h 90 13) ∧ (h203 90 20) = (h 90 20) ∧ (h203 90 22) = (h 90 22) ∧ (h203 90 25) = (h 90 25) ∧ (h203 90 26) = (h 90 26) ∧ (h203 90 28) = (h 90 28) ∧ (h203 90 29) = (h 90 29) ∧ (h203 90 30) = (h 90 30) ∧ (h203 90 34) = (h 90 34) ∧ -1 ≤ 1 ∧ 1 ≤ 1; omega), E205, E206, E207, E208, E209, E210, E211, E212, E213, E214, E215, E216, E217, E218, y200_, (ov_wf_3 (a := v135) (b := v185) (by omega) ⟨fun q => ⟨by omega, y151_.mp q⟩, fun q => y151_.mpr q.2⟩ ⟨fun q => ⟨by omega, y201_.mp q⟩, fun q => y201_.mpr q.2⟩ (by omega))⟩
            · skip
              refine ov_blk (ls2 := [(0, ov_r 90), (1, ov_i x), (2, ov_i y), (3, ov_i t), (4, ov_i sn), (5, ov_i v2), (6, ov_i v5), (7, ov_i v135), (8, ov_i v185)]) (st2 := [ov_i 0]) (pc2 := 86) b_276_85_1 rfl rfl ?_
              refine ov_goto (tgt := 99) d_276_86 (by decide) ?_
              exact ov_reti (st := []) d_276_99 rfl ⟨_, rfl, I204, (by show (h203 90 2) = (h 90 2) ∧ (h203 90 7) = (h 90 7) ∧ (h203 90 8) = (h 90 8) ∧ (h203 90 13) = (h 90 13) ∧ (h203 90 20) = (h 90 20) ∧ (h203 90 22) = (h 90 22) ∧ (h203 90 25) = (h 90 25) ∧ (h203 90 26) = (h 90 26) ∧ (h203 90 28) = (h 90 28) ∧ (h203 90 29) = (h 90 29) ∧ (h203 90 30) = (h 90 30) ∧ (h203 90 34) = (h 90 34) ∧ -1 ≤ 0 ∧ 0 ≤ 1; omega), E205, E206, E207, E208, E209, E210, E211, E212, E213, E214, E215, E216, E217, E218, y200_, (ov_wf_3 (a := v135) (b := v185) (by omega) ⟨fun q => ⟨by omega, y151_.mp q⟩, fun q => y151_.mpr q.2⟩ ⟨fun q => ⟨by omega, y201_.mp q⟩, fun q => y201_.mpr q.2⟩ (by omega))⟩
set_option maxHeartbeats 4000000 in
theorem c_Mo_worthSeen_90 {u : ov_U} {F : ov_H × ov_Z} (go : Int) (wt : Int) (sf : Int) (sm : Int) (k : Nat) (HV : ∀ k' : Nat, k' < k → ∀ {z : ov_Z} {h : ov_H} (d : Nat) (hd : (10 + 5 * k' + 4) ≤ d) (U : ov_cap u) (I : ov_N F z h) (x : Int) (y : Int) (s : Int) (g_x : ov_g x) (g_y : ov_g y) (g_s : ov_g s) (p0 : 0 ≤ x ∧ x ≤ 5 ∧ 0 ≤ y ∧ y ≤ 8) (p1 : x < (h 96 0) ∧ y < (h 96 1)) (p2 : x + y + (k' : Int) = 13) (p3 : 0 ≤ s ∧ s ≤ 2000000) (p4 : (h 90 26) = go) (p5 : (h 90 29) = wt) (p6 : (h 90 30) = sf) (p7 : (h 90 25) = sm) (p8 : 0 ≤ go ∧ go ≤ 3 + (h 96 8)) (W : ov_WT (h 96)) (CD : ov_CD (h 96) (h 97) (h 98)) (MI : ov_MI (h 96) (h 103) (h 97) (h 98) go wt sf sm (h 105) (h 106)), ov_T u d ov_m272 [ov_r 90, ov_i x, ov_i y, ov_i s] z h (P_Mo_worthFrom_90 F z h go wt sf sm x y s)) {z : ov_Z} {h : ov_H} (d : Nat) (hd : (10 + 5 * k + 2) ≤ d) (U : ov_cap u) (I : ov_N F z h) (x : Int) (y : Int) (t : Int) (sn : Int) (g_x : ov_g x) (g_y : ov_g y) (g_t : ov_g t) (g_sn : ov_g sn) (p0 : 0 ≤ x ∧ x ≤ 5 ∧ 0 ≤ y ∧ y ≤ 8) (p1 : x < (h 96 0) ∧ y < (h 96 1)) (p2 : x + y + (k : Int) = 13) (p3 : 0 ≤ t ∧ t < (h 96 9)) (p4 : 0 ≤ sn ∧ sn ≤ 3000) (p5 : (h 90 26) = go) (p6 : (h 90 29) = wt) (p7 : (h 90 30) = sf) (p8 : (h 90 25) = sm) (p9 : 0 ≤ go ∧ go ≤ 3 + (h 96 8)) (W : ov_WT (h 96)) (CD : ov_CD (h 96) (h 97) (h 98)) (MI : ov_MI (h 96) (h 103) (h 97) (h 98) go wt sf sm (h 105) (h 106)) : ov_T u d ov_m275 [ov_r 90, ov_i x, ov_i y, ov_i t, ov_i sn] z h (P_Mo_worthSeen_90 F z h go wt sf sm x y t sn) := by
  refine ov_en rfl (Nat.le_of_ble_eq_true rfl) ?_
  show ov_R u d ov_m275 0 [(0, ov_r 90), (1, ov_i x), (2, ov_i y), (3, ov_i t), (4, ov_i sn)] [] z h (P_Mo_worthSeen_90 F z h go wt sf sm x y t sn)
  have t0 := t96_0 I
  have t1 := t96_1 I
  have t9 := t96_9 I
  refine ov_blk (ls2 := [(0, ov_r 90), (1, ov_i x), (2, ov_i y), (3, ov_i t), (4, ov_i sn)]) (st2 := [ov_i sn, ov_i t, ov_i y, ov_i x, ov_r 90]) (pc2 := 6) b_275_0_5 rfl rfl ?_
  refine ov_cV (as := [ov_i x, ov_i y, ov_i t, ov_i sn]) (st := []) (d2 := d - 1) d_275_6 lk_Mo_371 rfl (Nat.le_of_ble_eq_true rfl) (c := 1) (zb_90 I) (zs_90 I) ⟨by decide, rfl⟩ (by omega) (c_Mo_wayOf_90 go wt sf sm k HV (d - 1) (by omega) U I x y t sn (by omega) (by omega) (by omega) (by omega) (by omega) (by show x < (h 96 0) ∧ y < (h 96 1); omega) (by omega) (by show 0 ≤ t ∧ t < (h 96 9); omega) (by omega) (by show (h 90 26) = go; omega) (by show (h 90 29) = wt; omega) (by show (h 90 30) = sf; omega) (by show (h 90 25) = sm; omega) (by show 0 ≤ go ∧ go ≤ 3 + (h 96 8); omega) W CD MI) ?_
  rintro _ z19 h20 ⟨v2, rfl, I21, f1, e3, e4, e5, e6, e7, e8, e9, e10, e11, e12, e13, e14, e15, e16, y17, y18⟩
  have E22 : h20 91 = h 91 := e3
  have E23 : h20 92 = h 92 := e4
  have E24 : h20 93 = h 93 := e5
  have E25 : h20 94 = h 94 := e6
  have E26 : h20 95 = h 95 := e7
  have E27 : h20 96 = h 96 := e8
  have E28 : h20 97 = h 97 := e9
  have E29 : h20 98 = h 98 := e10
  have E30 : h20 99 = h 99 := e11
  have E31 : h20 100 = h 100 := e12
  have E32 : h20 103 = h 103 := e13
  have E33 : h20 104 = h 104 := e14
  have E34 : h20 109 = h 109 := e15
  have E35 : h20 114 = h 114 := e16
  show ov_R u d ov_m275 9 [(0, ov_r 90), (1, ov_i x), (2, ov_i y), (3, ov_i t), (4, ov_i sn)] [ov_i v2] z19 h20 (P_Mo_worthSeen_90 F z h go wt sf sm x y t sn)
  have f36 : (h20 90 2) = (h 90 2) ∧ (h20 90 7) = (h 90 7) ∧ (h20 90 8) = (h 90 8) ∧ (h20 90 13) = (h 90 13) ∧ (h20 90 20) = (h 90 20) ∧ (h20 90 22) = (h 90 22) ∧ (h20 90 25) = (h 90 25) ∧ (h20 90 26) = (h 90 26) ∧ (h20 90 28) = (h 90 28) ∧ (h20 90 29) = (h 90 29) ∧ (h20 90 30) = (h 90 30) ∧ (h20 90 34) = (h 90 34) ∧ -1 ≤ v2 ∧ v2 ≤ 1 := f1
  clear f1
  have y17_ : ov_MI (h 96) (h 103) (h 97) (h 98) go wt sf sm (h20 105) (h20 106) := y17
  have y18_ : ov_wf (h 96) (h 97) (h 98) (ov_go (h 96) (h 103) (h 97) (h 98) go wt sf) go x y t sn v2 := y18
  refine ov_blk (ls2 := [(0, ov_r 90), (1, ov_i x), (2, ov_i y), (3, ov_i t), (4, ov_i sn), (5, ov_i v2)]) (st2 := [ov_i v2]) (pc2 := 13) b_275_9_2 rfl rfl ?_
  refine ov_ifge (tgt := 20) d_275_13 (by decide) (by omega) (fun c37 => ?_) (fun c37 => ?_)
  · skip
    have cg := (ov_cgi_sp (h 96) x y v2).2 (y18_.1 (by omega))
    refine ov_blk (ls2 := [(0, ov_r 90), (1, ov_i x), (2, ov_i y), (3, ov_i t), (4, ov_i sn), (5, ov_i v2)]) (st2 := [ov_i sn, ov_i t, ov_i v2, ov_i y, ov_i x, ov_r 90]) (pc2 := 28) b_275_20_6 rfl rfl ?_
    have cf38 : h20 96 (0) = h 96 (0) := congrFun E27 (0)
    have cf39 : h20 96 (1) = h 96 (1) := congrFun E27 (1)
    have cf40 : h20 96 (9) = h 96 (9) := congrFun E27 (9)
    have cf41 : h20 96 (10 + 4 * (6 * y + x)) = h 96 (10 + 4 * (6 * y + x)) := congrFun E27 (10 + 4 * (6 * y + x))
    have cf42 : h20 96 (10 + 4 * (6 * y + x) + 3) = h 96 (10 + 4 * (6 * y + x) + 3) := congrFun E27 (10 + 4 * (6 * y + x) + 3)
    have cf43 : h20 96 (10 + 4 * (6 * y + x) + 1) = h 96 (10 + 4 * (6 * y + x) + 1) := congrFun E27 (10 + 4 * (6 * y + x) + 1)
    have cf44 : h20 96 (8) = h 96 (8) := congrFun E27 (8)
    refine ov_cV (as := [ov_i x, ov_i y, ov_i v2, ov_i t, ov_i sn]) (st := []) (d2 := d - 1) d_275_28 lk_Mo_374 rfl (Nat.le_of_ble_eq_true rfl) (c := 1) (zb_90 I21) (zs_90 I21) ⟨by decide, rfl⟩ (by omega) (c_Mo_worthBy_90 go wt sf sm k HV (d - 1) (by omega) U I21 x y v2 t sn (by omega) (by omega) (by omega) (by omega) (by omega) (by omega) (by show x < (h20 96 0) ∧ y < (h20 96 1); omega) (by omega) (by omega) (by show 0 ≤ t ∧ t < (h20 96 9); omega) (by omega) (by show ((v2 = 0 → x < (h20 96 0) - 1) ∧ (¬ v2 = 0 → y < (h20 96 1) - 1)) ∧ (((h20 96 (10 + 4 * (6 * y + x))) = 1 ∨ (h20 96 (10 + 4 * (6 * y + x))) = 2) → (v2 = 0 → 0 < (h20 96 (10 + 4 * (6 * y + x) + 3))) ∧ (¬ v2 = 0 → (h20 96 (10 + 4 * (6 * y + x) + 3)) < (h20 96 (10 + 4 * (6 * y + x) + 1)))); omega) (by show (h20 90 26) = go; omega) (by show (h20 90 29) = wt; omega) (by show (h20 90 30) = sf; omega) (by show (h20 90 25) = sm; omega) (by show 0 ≤ go ∧ go ≤ 3 + (h20 96 8); omega) (by rw [show h20 96 = h 96 from E27]; exact W) (by rw [show h20 96 = h 96 from E27, show h20 97 = h 97 from E28, show h20 98 = h 98 from E29]; exact CD) (by rw [show h20 96 = h 96 from E27, show h20 103 = h 103 from E32, show h20 97 = h 97 from E28, show h20 98 = h 98 from E29]; exact y17_)) ?_
    rintro _ z63 h64 ⟨v46, rfl, I65, f45, e47, e48, e49, e50, e51, e52, e53, e54, e55, e56, e57, e58, e59, e60, y61, y62⟩
    have E66 : h64 91 = h 91 := Eq.trans e47 E22
    have E67 : h64 92 = h 92 := Eq.trans e48 E23
    have E68 : h64 93 = h 93 := Eq.trans e49 E24
    have E69 : h64 94 = h 94 := Eq.trans e50 E25
    have E70 : h64 95 = h 95 := Eq.trans e51 E26
    have E71 : h64 96 = h 96 := Eq.trans e52 E27
    have E72 : h64 97 = h 97 := Eq.trans e53 E28
    have E73 : h64 98 = h 98 := Eq.trans e54 E29
    have E74 : h64 99 = h 99 := Eq.trans e55 E30
    have E75 : h64 100 = h 100 := Eq.trans e56 E31
    have E76 : h64 103 = h 103 := Eq.trans e57 E32
    have E77 : h64 104 = h 104 := Eq.trans e58 E33
    have E78 : h64 109 = h 109 := Eq.trans e59 E34
    have E79 : h64 114 = h 114 := Eq.trans e60 E35
    show ov_R u d ov_m275 31 [(0, ov_r 90), (1, ov_i x), (2, ov_i y), (3, ov_i t), (4, ov_i sn), (5, ov_i v2)] [ov_i v46] z63 h64 (P_Mo_worthSeen_90 F z h go wt sf sm x y t sn)
    have f80 : (h64 90 2) = (h20 90 2) ∧ (h64 90 7) = (h20 90 7) ∧ (h64 90 8) = (h20 90 8) ∧ (h64 90 13) = (h20 90 13) ∧ (h64 90 20) = (h20 90 20) ∧ (h64 90 22) = (h20 90 22) ∧ (h64 90 25) = (h20 90 25) ∧ (h64 90 26) = (h20 90 26) ∧ (h64 90 28) = (h20 90 28) ∧ (h64 90 29) = (h20 90 29) ∧ (h64 90 30) = (h20 90 30) ∧ (h64 90 34) = (h20 90 34) ∧ -1 ≤ v46 ∧ v46 ≤ 89000 * (13 - x - y) := f45
    clear f45
    rw [show h20 103 = h 103 from E32] at y61
    rw [show h20 96 = h 96 from E27] at y61
    rw [show h20 97 = h 97 from E28] at y61
    rw [show h20 98 = h 98 from E29] at y61
    have y61_ : ov_MI (h 96) (h 103) (h 97) (h 98) go wt sf sm (h64 105) (h64 106) := y61
    rw [show h20 103 = h 103 from E32] at y62
    rw [show h20 96 = h 96 from E27] at y62
    rw [show h20 97 = h 97 from E28] at y62
    rw [show h20 98 = h 98 from E29] at y62
    have y62_ : (0 ≤ v46 ↔ ov_go (h 96) (h 103) (h 97) (h 98) go wt sf (x + 1 - v2) (y + v2) (ov_nx (h 96) t (ov_wm (h 96) (6 * y + x) v2 sn))) := y62
    exact ov_reti (st := []) d_275_31 rfl ⟨_, rfl, I65, (by show (h64 90 2) = (h 90 2) ∧ (h64 90 7) = (h 90 7) ∧ (h64 90 8) = (h 90 8) ∧ (h64 90 13) = (h 90 13) ∧ (h64 90 20) = (h 90 20) ∧ (h64 90 22) = (h 90 22) ∧ (h64 90 25) = (h 90 25) ∧ (h64 90 26) = (h 90 26) ∧ (h64 90 28) = (h 90 28) ∧ (h64 90 29) = (h 90 29) ∧ (h64 90 30) = (h 90 30) ∧ (h64 90 34) = (h 90 34) ∧ -1 ≤ v46 ∧ v46 ≤ 89000 * (13 - x - y); omega), E66, E67, E68, E69, E70, E71, E72, E73, E74, E75, E76, E77, E78, E79, y61_, (y62_.trans (ov_wf_gs y18_ (by omega)))⟩
  · skip
    refine ov_blk (ls2 := [(0, ov_r 90), (1, ov_i x), (2, ov_i y), (3, ov_i t), (4, ov_i sn), (5, ov_i v2)]) (st2 := [ov_i (-1)]) (pc2 := 17) b_275_16_1 rfl rfl ?_
    refine ov_goto (tgt := 31) d_275_17 (by decide) ?_
    exact ov_reti (st := []) d_275_31 rfl ⟨_, rfl, I21, (by show (h20 90 2) = (h 90 2) ∧ (h20 90 7) = (h 90 7) ∧ (h20 90 8) = (h 90 8) ∧ (h20 90 13) = (h 90 13) ∧ (h20 90 20) = (h 90 20) ∧ (h20 90 22) = (h 90 22) ∧ (h20 90 25) = (h 90 25) ∧ (h20 90 26) = (h 90 26) ∧ (h20 90 28) = (h 90 28) ∧ (h20 90 29) = (h 90 29) ∧ (h20 90 30) = (h 90 30) ∧ (h20 90 34) = (h 90 34) ∧ -1 ≤ (-1) ∧ (-1) ≤ 89000 * (13 - x - y); omega), E22, E23, E24, E25, E26, E27, E28, E29, E30, E31, E32, E33, E34, E35, y17_, (iff_of_false (by decide) (ov_wf_no y18_ (by omega)))⟩
set_option maxHeartbeats 4000000 in
theorem c_Mo_worthHidden_90 {u : ov_U} {F : ov_H × ov_Z} (go : Int) (wt : Int) (sf : Int) (sm : Int) (k : Nat) (HV : ∀ k' : Nat, k' < k → ∀ {z : ov_Z} {h : ov_H} (d : Nat) (hd : (10 + 5 * k' + 4) ≤ d) (U : ov_cap u) (I : ov_N F z h) (x : Int) (y : Int) (s : Int) (g_x : ov_g x) (g_y : ov_g y) (g_s : ov_g s) (p0 : 0 ≤ x ∧ x ≤ 5 ∧ 0 ≤ y ∧ y ≤ 8) (p1 : x < (h 96 0) ∧ y < (h 96 1)) (p2 : x + y + (k' : Int) = 13) (p3 : 0 ≤ s ∧ s ≤ 2000000) (p4 : (h 90 26) = go) (p5 : (h 90 29) = wt) (p6 : (h 90 30) = sf) (p7 : (h 90 25) = sm) (p8 : 0 ≤ go ∧ go ≤ 3 + (h 96 8)) (W : ov_WT (h 96)) (CD : ov_CD (h 96) (h 97) (h 98)) (MI : ov_MI (h 96) (h 103) (h 97) (h 98) go wt sf sm (h 105) (h 106)), ov_T u d ov_m272 [ov_r 90, ov_i x, ov_i y, ov_i s] z h (P_Mo_worthFrom_90 F z h go wt sf sm x y s)) {z : ov_Z} {h : ov_H} (d : Nat) (hd : (10 + 5 * k + 3) ≤ d) (U : ov_cap u) (I : ov_N F z h) (x : Int) (y : Int) (t : Int) (g_x : ov_g x) (g_y : ov_g y) (g_t : ov_g t) (p0 : 0 ≤ x ∧ x ≤ 5 ∧ 0 ≤ y ∧ y ≤ 8) (p1 : x < (h 96 0) ∧ y < (h 96 1)) (p2 : x + y + (k : Int) = 13) (p3 : 0 ≤ t ∧ t < (h 96 9)) (p4 : (h 96 (10 + 4 * (6 * y + x))) = 2) (p5 : (h 90 26) = go) (p6 : (h 90 29) = wt) (p7 : (h 90 30) = sf) (p8 : (h 90 25) = sm) (p9 : 0 ≤ go ∧ go ≤ 3 + (h 96 8)) (W : ov_WT (h 96)) (CD : ov_CD (h 96) (h 97) (h 98)) (MI : ov_MI (h 96) (h 103) (h 97) (h 98) go wt sf sm (h 105) (h 106)) : ov_T u d ov_m274 [ov_r 90, ov_i x, ov_i y, ov_i t] z h (P_Mo_worthHidden_90 F z h go wt sf sm x y t) := by
  refine ov_en rfl (Nat.le_of_ble_eq_true rfl) ?_
  show ov_R u d ov_m274 0 [(0, ov_r 90), (1, ov_i x), (2, ov_i y), (3, ov_i t)] [] z h (P_Mo_worthHidden_90 F z h go wt sf sm x y t)
  have t0 := t96_0 I
  have t1 := t96_1 I
  have t9 := t96_9 I
  have w1 := ov_WT_at W (c := 6 * y + x) (by omega)
  refine ov_blk (ls2 := [(0, ov_r 90), (1, ov_i x), (2, ov_i y), (3, ov_i t), (4, ov_l 0), (6, ov_i 0)]) (st2 := [ov_i 1, ov_i y, ov_i x, ov_r 90]) (pc2 := 10) b_274_0_8 rfl rfl ?_
  refine ov_cV (as := [ov_i x, ov_i y, ov_i 1]) (st := []) (d2 := d - 1) d_274_10 lk_Mo_289 rfl (Nat.le_of_ble_eq_true rfl) (c := 1) (zb_90 I) (zs_90 I) ⟨by decide, rfl⟩ (by omega) (c_Mo_lightAt_90 (d - 1) (by omega) U I x y 1 (by omega) (by omega) (by omega) (by omega) (by omega)) ?_
  rintro _ _ _ ⟨v2, rfl, rfl, rfl, f1⟩
  show ov_R u d ov_m274 13 [(0, ov_r 90), (1, ov_i x), (2, ov_i y), (3, ov_i t), (4, ov_l 0), (6, ov_i 0)] [ov_i v2] z h (P_Mo_worthHidden_90 F z h go wt sf sm x y t)
  have f3 : v2 = (h 96 (10 + 4 * (6 * y + x) + (1 : Int))) ∧ ((1 : Int) = 1 → 0 ≤ v2 ∧ v2 ≤ 60) ∧ ((1 : Int) = 2 → 0 ≤ v2 ∧ v2 ≤ 59) ∧ ((1 : Int) = 3 → 0 ≤ v2 ∧ v2 ≤ 60) := f1
  clear f1
  refine ov_blk (ls2 := [(0, ov_r 90), (1, ov_i x), (2, ov_i y), (3, ov_i t), (4, ov_l 0), (6, ov_i 0), (7, ov_i v2), (8, ov_i 0)]) (st2 := []) (pc2 := 18) b_274_13_3 rfl rfl ?_
  have L7 : ∀ (n4 : Nat) (x4 : Int) (x6 : Int) (x8 : Int) (z8 : ov_Z) (h9 : ov_H) (I10 : ov_N F z8 h9) (E11 : h9 91 = h 91) (E12 : h9 92 = h 92) (E13 : h9 93 = h 93) (E14 : h9 94 = h 94) (E15 : h9 95 = h 95) (E16 : h9 96 = h 96) (E17 : h9 97 = h 97) (E18 : h9 98 = h 98) (E19 : h9 99 = h 99) (E20 : h9 100 = h 100) (E21 : h9 103 = h 103) (E22 : h9 104 = h 104) (E23 : h9 109 = h 109) (E24 : h9 114 = h 114) (xs : x4 ≤ 89000 * (13 - x - y) * x8) (xg : ∀ q : Int, 0 ≤ q → q < x8 → ov_gs (h 96) (h 97) (h 98) (ov_go (h 96) (h 103) (h 97) (h 98) go wt sf) go x y t q) (xm : ov_MI (h 96) (h 103) (h 97) (h 98) go wt sf sm (h9 105) (h9 106)) (q6 : 0 ≤ x8 ∧ x8 ≤ v2 ∧ 0 ≤ x4 ∧ x4 ≤ 1200000 * x8 ∧ 0 ≤ x6 ∧ x6 ≤ 89000 * (13 - x - y) ∧ (h9 90 2) = (h 90 2) ∧ (h9 90 7) = (h 90 7) ∧ (h9 90 8) = (h 90 8) ∧ (h9 90 13) = (h 90 13) ∧ (h9 90 20) = (h 90 20) ∧ (h9 90 22) = (h 90 22) ∧ (h9 90 25) = (h 90 25) ∧ (h9 90 26) = (h 90 26) ∧ (h9 90 28) = (h 90 28) ∧ (h9 90 29) = (h 90 29) ∧ (h9 90 30) = (h 90 30) ∧ (h9 90 34) = (h 90 34)), 60 - x8 < (n4 : Int) → ov_R u d ov_m274 18 [(0, ov_r 90), (1, ov_i x), (2, ov_i y), (3, ov_i t), (4, ov_l x4), (6, ov_i x6), (7, ov_i v2), (8, ov_i x8)] [] z8 h9 (P_Mo_worthHidden_90 F z h go wt sf sm x y t) := by
    intro n4
    induction n4 with
    | zero =>
      intro x4 x6 x8 z8 h9 I10 E11 E12 E13 E14 E15 E16 E17 E18 E19 E20 E21 E22 E23 E24 xs xg xm q6 hn25
      exact absurd hn25 (by omega)
    | succ n4 ih5 =>
      intro x4 x6 x8 z8 h9 I10 E11 E12 E13 E14 E15 E16 E17 E18 E19 E20 E21 E22 E23 E24 xs xg xm q6 hn25
      refine ov_blk (ls2 := [(0, ov_r 90), (1, ov_i x), (2, ov_i y), (3, ov_i t), (4, ov_l x4), (6, ov_i x6), (7, ov_i v2), (8, ov_i x8)]) (st2 := [ov_i v2, ov_i x8]) (pc2 := 22) b_274_18_2 rfl rfl ?_
      refine ov_icge (tgt := 73) d_274_22 (by decide) (by omega) (by omega) (fun c26 => ?_) (fun c26 => ?_)
      · skip
        refine ov_blk (ls2 := [(0, ov_r 90), (1, ov_i x), (2, ov_i y), (3, ov_i t), (4, ov_l x4), (6, ov_i x6), (7, ov_i v2), (8, ov_i x8)]) (st2 := [ov_r 90]) (pc2 := 74) b_274_73_1 rfl rfl ?_
        refine ov_getf (v := ov_i (h9 90 27)) d_274_74 fl_Mo_349 (zb_90 I10) (zs_90 I10) rfl ?_
        have g27 := rg_90_27 I10
        refine ov_ifeq (tgt := 85) d_274_77 (by decide) (by omega) (fun c28 => ?_) (fun c28 => ?_)
        · skip
          refine ov_blk (ls2 := [(0, ov_r 90), (1, ov_i x), (2, ov_i y), (3, ov_i t), (4, ov_l x4), (6, ov_i x6), (7, ov_i v2), (8, ov_i x8)]) (st2 := [ov_l (ov_w v2), ov_l x4]) (pc2 := 90) b_274_85_3 rfl rfl ?_
          have g29 := ov_wg v2
          have g30 := ov_wq v2
          have xs2 : x4 ≤ 89000 * (13 - x - y) * (ov_w v2) := by rw [show (ov_w v2) = x8 by omega]; exact xs
          have xd := ov_hsd (n := (ov_w v2)) (by omega) (by omega) xs2
          refine ov_ldiv d_274_90 (by omega) (by omega) (by omega) ?_
          refine ov_blk (ls2 := [(0, ov_r 90), (1, ov_i x), (2, ov_i y), (3, ov_i t), (4, ov_l x4), (6, ov_i x6), (7, ov_i v2), (8, ov_i x8)]) (st2 := [ov_i (Int.tdiv x4 (ov_w v2))]) (pc2 := 92) b_274_91_1 rfl rfl ?_
          exact ov_reti (st := []) d_274_92 rfl ⟨_, rfl, I10, (by show (h9 90 2) = (h 90 2) ∧ (h9 90 7) = (h 90 7) ∧ (h9 90 8) = (h 90 8) ∧ (h9 90 13) = (h 90 13) ∧ (h9 90 20) = (h 90 20) ∧ (h9 90 22) = (h 90 22) ∧ (h9 90 25) = (h 90 25) ∧ (h9 90 26) = (h 90 26) ∧ (h9 90 28) = (h 90 28) ∧ (h9 90 29) = (h 90 29) ∧ (h9 90 30) = (h 90 30) ∧ (h9 90 34) = (h 90 34) ∧ -1 ≤ (Int.tdiv x4 (ov_w v2)) ∧ (Int.tdiv x4 (ov_w v2)) ≤ 89000 * (13 - x - y); omega), E11, E12, E13, E14, E15, E16, E17, E18, E19, E20, E21, E22, E23, E24, xm, (iff_of_true (by omega) (fun q a b => xg q a (by omega)))⟩
        · skip
          refine ov_blk (ls2 := [(0, ov_r 90), (1, ov_i x), (2, ov_i y), (3, ov_i t), (4, ov_l x4), (6, ov_i x6), (7, ov_i v2), (8, ov_i x8)]) (st2 := [ov_i x6]) (pc2 := 82) b_274_80_1 rfl rfl ?_
          refine ov_goto (tgt := 92) d_274_82 (by decide) ?_
          exact ov_reti (st := []) d_274_92 rfl ⟨_, rfl, I10, (by show (h9 90 2) = (h 90 2) ∧ (h9 90 7) = (h 90 7) ∧ (h9 90 8) = (h 90 8) ∧ (h9 90 13) = (h 90 13) ∧ (h9 90 20) = (h 90 20) ∧ (h9 90 22) = (h 90 22) ∧ (h9 90 25) = (h 90 25) ∧ (h9 90 26) = (h 90 26) ∧ (h9 90 28) = (h 90 28) ∧ (h9 90 29) = (h 90 29) ∧ (h9 90 30) = (h 90 30) ∧ (h9 90 34) = (h 90 34) ∧ -1 ≤ x6 ∧ x6 ≤ 89000 * (13 - x - y); omega), E11, E12, E13, E14, E15, E16, E17, E18, E19, E20, E21, E22, E23, E24, xm, (iff_of_true (by omega) (fun q a b => xg q a (by omega)))⟩
      · skip
        refine ov_blk (ls2 := [(0, ov_r 90), (1, ov_i x), (2, ov_i y), (3, ov_i t), (4, ov_l x4), (6, ov_i x6), (7, ov_i v2), (8, ov_i x8)]) (st2 := [ov_i x8, ov_i t, ov_i y, ov_i x, ov_r 90]) (pc2 := 31) b_274_25_5 rfl rfl ?_
        have cf31 : h9 96 (0) = h 96 (0) := congrFun E16 (0)
        have cf32 : h9 96 (1) = h 96 (1) := congrFun E16 (1)
        have cf33 : h9 96 (9) = h 96 (9) := congrFun E16 (9)
        have cf34 : h9 96 (8) = h 96 (8) := congrFun E16 (8)
        refine ov_cV (as := [ov_i x, ov_i y, ov_i t, ov_i x8]) (st := []) (d2 := d - 1) d_274_31 lk_Mo_368 rfl (Nat.le_of_ble_eq_true rfl) (c := 1) (zb_90 I10) (zs_90 I10) ⟨by decide, rfl⟩ (by omega) (c_Mo_worthSeen_90 go wt sf sm k HV (d - 1) (by omega) U I10 x y t x8 (by omega) (by omega) (by omega) (by omega) (by omega) (by show x < (h9 96 0) ∧ y < (h9 96 1); omega) (by omega) (by show 0 ≤ t ∧ t < (h9 96 9); omega) (by omega) (by show (h9 90 26) = go; omega) (by show (h9 90 29) = wt; omega) (by show (h9 90 30) = sf; omega) (by show (h9 90 25) = sm; omega) (by show 0 ≤ go ∧ go ≤ 3 + (h9 96 8); omega) (by rw [show h9 96 = h 96 from E16]; exact W) (by rw [show h9 96 = h 96 from E16, show h9 97 = h 97 from E17, show h9 98 = h 98 from E18]; exact CD) (by rw [show h9 96 = h 96 from E16, show h9 103 = h 103 from E21, show h9 97 = h 97 from E17, show h9 98 = h 98 from E18]; exact xm)) ?_
        rintro _ z53 h54 ⟨v36, rfl, I55, f35, e37, e38, e39, e40, e41, e42, e43, e44, e45, e46, e47, e48, e49, e50, y51, y52⟩
        have E56 : h54 91 = h 91 := Eq.trans e37 E11
        have E57 : h54 92 = h 92 := Eq.trans e38 E12
        have E58 : h54 93 = h 93 := Eq.trans e39 E13
        have E59 : h54 94 = h 94 := Eq.trans e40 E14
        have E60 : h54 95 = h 95 := Eq.trans e41 E15
        have E61 : h54 96 = h 96 := Eq.trans e42 E16
        have E62 : h54 97 = h 97 := Eq.trans e43 E17
        have E63 : h54 98 = h 98 := Eq.trans e44 E18
        have E64 : h54 99 = h 99 := Eq.trans e45 E19
        have E65 : h54 100 = h 100 := Eq.trans e46 E20
        have E66 : h54 103 = h 103 := Eq.trans e47 E21
        have E67 : h54 104 = h 104 := Eq.trans e48 E22
        have E68 : h54 109 = h 109 := Eq.trans e49 E23
        have E69 : h54 114 = h 114 := Eq.trans e50 E24
        show ov_R u d ov_m274 34 [(0, ov_r 90), (1, ov_i x), (2, ov_i y), (3, ov_i t), (4, ov_l x4), (6, ov_i x6), (7, ov_i v2), (8, ov_i x8)] [ov_i v36] z53 h54 (P_Mo_worthHidden_90 F z h go wt sf sm x y t)
        have f70 : (h54 90 2) = (h9 90 2) ∧ (h54 90 7) = (h9 90 7) ∧ (h54 90 8) = (h9 90 8) ∧ (h54 90 13) = (h9 90 13) ∧ (h54 90 20) = (h9 90 20) ∧ (h54 90 22) = (h9 90 22) ∧ (h54 90 25) = (h9 90 25) ∧ (h54 90 26) = (h9 90 26) ∧ (h54 90 28) = (h9 90 28) ∧ (h54 90 29) = (h9 90 29) ∧ (h54 90 30) = (h9 90 30) ∧ (h54 90 34) = (h9 90 34) ∧ -1 ≤ v36 ∧ v36 ≤ 89000 * (13 - x - y) := f35
        clear f35
        rw [show h9 103 = h 103 from E21] at y51
        rw [show h9 96 = h 96 from E16] at y51
        rw [show h9 97 = h 97 from E17] at y51
        rw [show h9 98 = h 98 from E18] at y51
        have y51_ : ov_MI (h 96) (h 103) (h 97) (h 98) go wt sf sm (h54 105) (h54 106) := y51
        rw [show h9 103 = h 103 from E21] at y52
        rw [show h9 96 = h 96 from E16] at y52
        rw [show h9 97 = h 97 from E17] at y52
        rw [show h9 98 = h 98 from E18] at y52
        have y52_ : (0 ≤ v36 ↔ ov_gs (h 96) (h 97) (h 98) (ov_go (h 96) (h 103) (h 97) (h 98) go wt sf) go x y t x8) := y52
        refine ov_blk (ls2 := [(0, ov_r 90), (1, ov_i x), (2, ov_i y), (3, ov_i t), (4, ov_l x4), (6, ov_i x6), (7, ov_i v2), (8, ov_i x8), (9, ov_i v36)]) (st2 := [ov_i v36]) (pc2 := 38) b_274_34_2 rfl rfl ?_
        refine ov_ifge (tgt := 43) d_274_38 (by decide) (by omega) (fun c71 => ?_) (fun c71 => ?_)
        · skip
          refine ov_blk (ls2 := [(0, ov_r 90), (1, ov_i x), (2, ov_i y), (3, ov_i t), (4, ov_l (x4 + (ov_w v36))), (6, ov_i x6), (7, ov_i v2), (8, ov_i x8), (9, ov_i v36)]) (st2 := [ov_i x6, ov_i v36]) (pc2 := 55) b_274_43_7 rfl rfl ?_
          have g72 := ov_wg v36
          have g73 := ov_wq v36
          refine ov_icle (tgt := 63) d_274_55 (by decide) (by omega) (by omega) (fun c74 => ?_) (fun c74 => ?_)
          · skip
            refine ov_blk (ls2 := [(0, ov_r 90), (1, ov_i x), (2, ov_i y), (3, ov_i t), (4, ov_l (x4 + (ov_w v36))), (6, ov_i x6), (7, ov_i v2), (8, ov_i (x8 + 1)), (9, ov_i v36)]) (st2 := []) (pc2 := 70) b_274_63_3 rfl rfl ?_
            refine ov_goto (tgt := 18) d_274_70 (by decide) ?_
            refine ov_sub (ls2 := [(0, ov_r 90), (1, ov_i x), (2, ov_i y), (3, ov_i t), (4, ov_l (x4 + (ov_w v36))), (6, ov_i x6), (7, ov_i v2), (8, ov_i (x8 + 1))]) (List.Sublist.subset (by repeat (first | exact List.Sublist.refl _ | apply List.Sublist.cons_cons | apply List.Sublist.cons))) ?_
            exact ih5 (x4 + (ov_w v36)) x6 (x8 + 1) _ _ I55 E56 E57 E58 E59 E60 E61 E62 E63 E64 E65 E66 E67 E68 E69 (by have q := ov_hsa (v := v36) xs (by omega); omega) (fun q a b => if c : q = x8 then (by rw [c]; exact y52_.mp (by omega)) else xg q a (by omega)) y51_ (by show 0 ≤ (x8 + 1) ∧ (x8 + 1) ≤ v2 ∧ 0 ≤ (x4 + (ov_w v36)) ∧ (x4 + (ov_w v36)) ≤ 1200000 * (x8 + 1) ∧ 0 ≤ x6 ∧ x6 ≤ 89000 * (13 - x - y) ∧ (h54 90 2) = (h 90 2) ∧ (h54 90 7) = (h 90 7) ∧ (h54 90 8) = (h 90 8) ∧ (h54 90 13) = (h 90 13) ∧ (h54 90 20) = (h 90 20) ∧ (h54 90 22) = (h 90 22) ∧ (h54 90 25) = (h 90 25) ∧ (h54 90 26) = (h 90 26) ∧ (h54 90 28) = (h 90 28) ∧ (h54 90 29) = (h 90 29) ∧ (h54 90 30) = (h 90 30) ∧ (h54 90 34) = (h 90 34); omega) (by omega)
          · skip
            refine ov_blk (ls2 := [(0, ov_r 90), (1, ov_i x), (2, ov_i y), (3, ov_i t), (4, ov_l (x4 + (ov_w v36))), (6, ov_i x6), (7, ov_i v2), (8, ov_i x8), (9, ov_i v36)]) (st2 := [ov_i v36]) (pc2 := 60) b_274_58_1 rfl rfl ?_
            refine ov_goto (tgt := 65) d_274_60 (by decide) ?_
            refine ov_blk (ls2 := [(0, ov_r 90), (1, ov_i x), (2, ov_i y), (3, ov_i t), (4, ov_l (x4 + (ov_w v36))), (6, ov_i v36), (7, ov_i v2), (8, ov_i (x8 + 1)), (9, ov_i v36)]) (st2 := []) (pc2 := 70) b_274_65_2 rfl rfl ?_
            refine ov_goto (tgt := 18) d_274_70 (by decide) ?_
            refine ov_sub (ls2 := [(0, ov_r 90), (1, ov_i x), (2, ov_i y), (3, ov_i t), (4, ov_l (x4 + (ov_w v36))), (6, ov_i v36), (7, ov_i v2), (8, ov_i (x8 + 1))]) (List.Sublist.subset (by repeat (first | exact List.Sublist.refl _ | apply List.Sublist.cons_cons | apply List.Sublist.cons))) ?_
            exact ih5 (x4 + (ov_w v36)) v36 (x8 + 1) _ _ I55 E56 E57 E58 E59 E60 E61 E62 E63 E64 E65 E66 E67 E68 E69 (by have q := ov_hsa (v := v36) xs (by omega); omega) (fun q a b => if c : q = x8 then (by rw [c]; exact y52_.mp (by omega)) else xg q a (by omega)) y51_ (by show 0 ≤ (x8 + 1) ∧ (x8 + 1) ≤ v2 ∧ 0 ≤ (x4 + (ov_w v36)) ∧ (x4 + (ov_w v36)) ≤ 1200000 * (x8 + 1) ∧ 0 ≤ v36 ∧ v36 ≤ 89000 * (13 - x - y) ∧ (h54 90 2) = (h 90 2) ∧ (h54 90 7) = (h 90 7) ∧ (h54 90 8) = (h 90 8) ∧ (h54 90 13) = (h 90 13) ∧ (h54 90 20) = (h 90 20) ∧ (h54 90 22) = (h 90 22) ∧ (h54 90 25) = (h 90 25) ∧ (h54 90 26) = (h 90 26) ∧ (h54 90 28) = (h 90 28) ∧ (h54 90 29) = (h 90 29) ∧ (h54 90 30) = (h 90 30) ∧ (h54 90 34) = (h 90 34); omega) (by omega)
        · skip
          refine ov_blk (ls2 := [(0, ov_r 90), (1, ov_i x), (2, ov_i y), (3, ov_i t), (4, ov_l x4), (6, ov_i x6), (7, ov_i v2), (8, ov_i x8), (9, ov_i v36)]) (st2 := [ov_i (-1)]) (pc2 := 42) b_274_41_1 rfl rfl ?_
          exact ov_reti (st := []) d_274_42 rfl ⟨_, rfl, I55, (by show (h54 90 2) = (h 90 2) ∧ (h54 90 7) = (h 90 7) ∧ (h54 90 8) = (h 90 8) ∧ (h54 90 13) = (h 90 13) ∧ (h54 90 20) = (h 90 20) ∧ (h54 90 22) = (h 90 22) ∧ (h54 90 25) = (h 90 25) ∧ (h54 90 26) = (h 90 26) ∧ (h54 90 28) = (h 90 28) ∧ (h54 90 29) = (h 90 29) ∧ (h54 90 30) = (h 90 30) ∧ (h54 90 34) = (h 90 34) ∧ -1 ≤ (-1) ∧ (-1) ≤ 89000 * (13 - x - y); omega), E56, E57, E58, E59, E60, E61, E62, E63, E64, E65, E66, E67, E68, E69, y51_, (iff_of_false (by decide) (fun a => absurd (y52_.mpr (a x8 (by omega) (by omega))) (by omega)))⟩
  exact L7 61 0 0 0 _ _ I rfl rfl rfl rfl rfl rfl rfl rfl rfl rfl rfl rfl rfl rfl (by omega) (fun q a b => absurd a (by omega)) MI (by show 0 ≤ 0 ∧ 0 ≤ v2 ∧ 0 ≤ 0 ∧ 0 ≤ 1200000 * 0 ∧ 0 ≤ 0 ∧ 0 ≤ 89000 * (13 - x - y) ∧ (h 90 2) = (h 90 2) ∧ (h 90 7) = (h 90 7) ∧ (h 90 8) = (h 90 8) ∧ (h 90 13) = (h 90 13) ∧ (h 90 20) = (h 90 20) ∧ (h 90 22) = (h 90 22) ∧ (h 90 25) = (h 90 25) ∧ (h 90 26) = (h 90 26) ∧ (h 90 28) = (h 90 28) ∧ (h 90 29) = (h 90 29) ∧ (h 90 30) = (h 90 30) ∧ (h 90 34) = (h 90 34); omega) (by omega)
set_option maxHeartbeats 4000000 in
theorem c_Mo_worthFrom_90 {u : ov_U} {F : ov_H × ov_Z} (go : Int) (wt : Int) (sf : Int) (sm : Int) (k : Nat) (HV : ∀ k' : Nat, k' < k → ∀ {z : ov_Z} {h : ov_H} (d : Nat) (hd : (10 + 5 * k' + 4) ≤ d) (U : ov_cap u) (I : ov_N F z h) (x : Int) (y : Int) (s : Int) (g_x : ov_g x) (g_y : ov_g y) (g_s : ov_g s) (p0 : 0 ≤ x ∧ x ≤ 5 ∧ 0 ≤ y ∧ y ≤ 8) (p1 : x < (h 96 0) ∧ y < (h 96 1)) (p2 : x + y + (k' : Int) = 13) (p3 : 0 ≤ s ∧ s ≤ 2000000) (p4 : (h 90 26) = go) (p5 : (h 90 29) = wt) (p6 : (h 90 30) = sf) (p7 : (h 90 25) = sm) (p8 : 0 ≤ go ∧ go ≤ 3 + (h 96 8)) (W : ov_WT (h 96)) (CD : ov_CD (h 96) (h 97) (h 98)) (MI : ov_MI (h 96) (h 103) (h 97) (h 98) go wt sf sm (h 105) (h 106)), ov_T u d ov_m272 [ov_r 90, ov_i x, ov_i y, ov_i s] z h (P_Mo_worthFrom_90 F z h go wt sf sm x y s)) {z : ov_Z} {h : ov_H} (d : Nat) (hd : (10 + 5 * k + 4) ≤ d) (U : ov_cap u) (I : ov_N F z h) (x : Int) (y : Int) (s : Int) (g_x : ov_g x) (g_y : ov_g y) (g_s : ov_g s) (p0 : 0 ≤ x ∧ x ≤ 5 ∧ 0 ≤ y ∧ y ≤ 8) (p1 : x < (h 96 0) ∧ y < (h 96 1)) (p2 : x + y + (k : Int) = 13) (p3 : 0 ≤ s ∧ s ≤ 2000000) (p4 : (h 90 26) = go) (p5 : (h 90 29) = wt) (p6 : (h 90 30) = sf) (p7 : (h 90 25) = sm) (p8 : 0 ≤ go ∧ go ≤ 3 + (h 96 8)) (W : ov_WT (h 96)) (CD : ov_CD (h 96) (h 97) (h 98)) (MI : ov_MI (h 96) (h 103) (h 97) (h 98) go wt sf sm (h 105) (h 106)) : ov_T u d ov_m272 [ov_r 90, ov_i x, ov_i y, ov_i s] z h (P_Mo_worthFrom_90 F z h go wt sf sm x y s) := by
  refine ov_en rfl (Nat.le_of_ble_eq_true rfl) ?_
  show ov_R u d ov_m272 0 [(0, ov_r 90), (1, ov_i x), (2, ov_i y), (3, ov_i s)] [] z h (P_Mo_worthFrom_90 F z h go wt sf sm x y s)
  have t0 := t96_0 I
  have t1 := t96_1 I
  have t9 := t96_9 I
  refine ov_blk (ls2 := [(0, ov_r 90), (1, ov_i x), (2, ov_i y), (3, ov_i s)]) (st2 := [ov_i y, ov_i x, ov_r 90]) (pc2 := 3) b_272_0_3 rfl rfl ?_
  refine ov_cV (as := [ov_i x, ov_i y]) (st := []) (d2 := d - 1) d_272_3 lk_Mo_335 rfl (Nat.le_of_ble_eq_true rfl) (c := 1) (zb_90 I) (zs_90 I) ⟨by decide, rfl⟩ (by omega) (c_Mo_isHome_90 (d - 1) (by omega) U I x y (by omega) (by omega) (by omega)) ?_
  rintro _ _ _ ⟨v2, rfl, rfl, rfl, f1⟩
  show ov_R u d ov_m272 6 [(0, ov_r 90), (1, ov_i x), (2, ov_i y), (3, ov_i s)] [ov_i v2] z h (P_Mo_worthFrom_90 F z h go wt sf sm x y s)
  have f3 : (v2 = 0 ∨ v2 = 1) ∧ (v2 = 1 → x = (h 96 0) - 1 ∧ y = (h 96 1) - 1) ∧ (v2 = 0 → ¬ (x = (h 96 0) - 1 ∧ y = (h 96 1) - 1)) := f1
  clear f1
  refine ov_ifeq (tgt := 11) d_272_6 (by decide) (by omega) (fun c4 => ?_) (fun c4 => ?_)
  · skip
    have f3_ : v2 = 0 := by omega
    have f5 : ¬ (x = (h 96 0) - 1 ∧ y = (h 96 1) - 1) := f3.2.2 (by omega)
    clear f3
    refine ov_blk (ls2 := [(0, ov_r 90), (1, ov_i x), (2, ov_i y), (3, ov_i s)]) (st2 := [ov_r 90, ov_i s]) (pc2 := 13) b_272_11_2 rfl rfl ?_
    refine ov_getf (v := ov_r 96) d_272_13 fl_Mo_81 (zb_90 I) (zs_90 I) (congrArg ov_r (rg_90_10 I)) ?_
    refine ov_blk (ls2 := [(0, ov_r 90), (1, ov_i x), (2, ov_i y), (3, ov_i s)]) (st2 := [ov_i 9, ov_r 96, ov_i s]) (pc2 := 18) b_272_16_1 rfl rfl ?_
    refine ov_iald d_272_18 (zb_96 I) (zs_96 I) (by omega) ?_
    have g6 := t96_9 I
    have gt1 := ov_tmv (x := s) (y := h 96 9) (by omega) (by omega)
    have gt2 : Int.tmod s (h 96 9) = s % h 96 9 := ov_tm (by omega)
    refine ov_irem d_272_19 (by omega) (by omega) (by omega) ?_
    have g7 := ov_tmg (a := s) (b := (h 96 9)) (by omega) (by omega)
    refine ov_blk (ls2 := [(0, ov_r 90), (1, ov_i x), (2, ov_i y), (3, ov_i s), (4, ov_i (Int.tmod s (h 96 9))), (5, ov_i ((1200 * ((6 * y) + x)) + (Int.tmod s (h 96 9))))]) (st2 := [ov_r 90]) (pc2 := 38) b_272_20_12 rfl rfl ?_
    refine ov_getf (v := ov_r 106) d_272_38 fl_Mo_113 (zb_90 I) (zs_90 I) (congrArg ov_r (rg_90_24 I)) ?_
    refine ov_blk (ls2 := [(0, ov_r 90), (1, ov_i x), (2, ov_i y), (3, ov_i s), (4, ov_i (Int.tmod s (h 96 9))), (5, ov_i ((1200 * ((6 * y) + x)) + (Int.tmod s (h 96 9))))]) (st2 := [ov_i ((1200 * ((6 * y) + x)) + (Int.tmod s (h 96 9))), ov_r 106]) (pc2 := 43) b_272_41_1 rfl rfl ?_
    refine ov_iald d_272_43 (zb_106 I) (zs_106 I) (by omega) ?_
    have g8 := ra_106 I ((1200 * ((6 * y) + x)) + (Int.tmod s (h 96 9)))
    refine ov_blk (ls2 := [(0, ov_r 90), (1, ov_i x), (2, ov_i y), (3, ov_i s), (4, ov_i (Int.tmod s (h 96 9))), (5, ov_i ((1200 * ((6 * y) + x)) + (Int.tmod s (h 96 9))))]) (st2 := [ov_r 90, ov_i (h 106 ((1200 * ((6 * y) + x)) + (Int.tmod s (h 96 9))))]) (pc2 := 45) b_272_44_1 rfl rfl ?_
    refine ov_getf (v := ov_i (h 90 25)) d_272_45 fl_Mo_359 (zb_90 I) (zs_90 I) rfl ?_
    have g9 := rg_90_25 I
    refine ov_iceq (tgt := 126) d_272_48 (by decide) (by omega) (by omega) (fun c10 => ?_) (fun c10 => ?_)
    · skip
      have hm : 0 ≤ h 105 ((1200 * ((6 * y) + x)) + (Int.tmod s (h 96 9))) ↔ ov_go (h 96) (h 103) (h 97) (h 98) go wt sf x y (Int.tmod s (h 96 9)) := ov_memo MI (by omega) (by omega) (by omega) (by omega)
      have hr := (ra_105 I ((1200 * ((6 * y) + x)) + (Int.tmod s (h 96 9)))).2.2 (by omega) (by omega)
      refine ov_blk (ls2 := [(0, ov_r 90), (1, ov_i x), (2, ov_i y), (3, ov_i s), (4, ov_i (Int.tmod s (h 96 9))), (5, ov_i ((1200 * ((6 * y) + x)) + (Int.tmod s (h 96 9))))]) (st2 := [ov_r 90]) (pc2 := 127) b_272_126_1 rfl rfl ?_
      refine ov_getf (v := ov_r 105) d_272_127 fl_Mo_110 (zb_90 I) (zs_90 I) (congrArg ov_r (rg_90_23 I)) ?_
      refine ov_blk (ls2 := [(0, ov_r 90), (1, ov_i x), (2, ov_i y), (3, ov_i s), (4, ov_i (Int.tmod s (h 96 9))), (5, ov_i ((1200 * ((6 * y) + x)) + (Int.tmod s (h 96 9))))]) (st2 := [ov_i ((1200 * ((6 * y) + x)) + (Int.tmod s (h 96 9))), ov_r 105]) (pc2 := 132) b_272_130_1 rfl rfl ?_
      refine ov_iald d_272_132 (zb_105 I) (zs_105 I) (by omega) ?_
      have g11 := s105_g I ((1200 * ((6 * y) + x)) + (Int.tmod s (h 96 9)))
      exact ov_reti (st := []) d_272_133 rfl ⟨_, rfl, I, ⟨rfl, rfl, rfl, rfl, rfl, rfl, rfl, rfl, rfl, rfl, rfl, rfl, (by show -1 ≤ (h 105 ((1200 * ((6 * y) + x)) + (Int.tmod s (h 96 9)))) ∧ (h 105 ((1200 * ((6 * y) + x)) + (Int.tmod s (h 96 9)))) ≤ 89000 * (13 - x - y); omega)⟩, rfl, rfl, rfl, rfl, rfl, rfl, rfl, rfl, rfl, rfl, rfl, rfl, rfl, rfl, MI, (by rw [← gt2]; exact hm)⟩
    · skip
      refine ov_blk (ls2 := [(0, ov_r 90), (1, ov_i x), (2, ov_i y), (3, ov_i s), (4, ov_i (Int.tmod s (h 96 9))), (5, ov_i ((1200 * ((6 * y) + x)) + (Int.tmod s (h 96 9))))]) (st2 := [ov_i y, ov_i x, ov_r 90]) (pc2 := 54) b_272_51_3 rfl rfl ?_
      refine ov_cV (as := [ov_i x, ov_i y]) (st := []) (d2 := d - 1) d_272_54 lk_Mo_362 rfl (Nat.le_of_ble_eq_true rfl) (c := 1) (zb_90 I) (zs_90 I) ⟨by decide, rfl⟩ (by omega) (c_Mo_isUnknown_90 (d - 1) (by omega) U I x y (by omega) (by omega) (by omega)) ?_
      rintro _ _ _ ⟨v13, rfl, rfl, rfl, f12⟩
      show ov_R u d ov_m272 57 [(0, ov_r 90), (1, ov_i x), (2, ov_i y), (3, ov_i s), (4, ov_i (Int.tmod s (h 96 9))), (5, ov_i ((1200 * ((6 * y) + x)) + (Int.tmod s (h 96 9))))] [ov_i v13] z h (P_Mo_worthFrom_90 F z h go wt sf sm x y s)
      have f14 : (v13 = 0 ∨ v13 = 1) ∧ (v13 = 1 → ((h 96 (10 + 4 * (6 * y + x))) = 2 ∧ ¬ (h 103 (4 + 6 * y + x)) = 1 ∧ ¬ 6 * y + x = (h 90 29))) ∧ (v13 = 0 → ¬ ((h 96 (10 + 4 * (6 * y + x))) = 2 ∧ ¬ (h 103 (4 + 6 * y + x)) = 1 ∧ ¬ 6 * y + x = (h 90 29))) := f12
      clear f12
      refine ov_ifeq (tgt := 71) d_272_57 (by decide) (by omega) (fun c15 => ?_) (fun c15 => ?_)
      · skip
        have f14_ : v13 = 0 := by omega
        have f16 : ¬ ((h 96 (10 + 4 * (6 * y + x))) = 2 ∧ ¬ (h 103 (4 + 6 * y + x)) = 1 ∧ ¬ 6 * y + x = (h 90 29)) := f14.2.2 (by omega)
        clear f14
        refine ov_blk (ls2 := [(0, ov_r 90), (1, ov_i x), (2, ov_i y), (3, ov_i s), (4, ov_i (Int.tmod s (h 96 9))), (5, ov_i ((1200 * ((6 * y) + x)) + (Int.tmod s (h 96 9))))]) (st2 := [ov_r 90, ov_i ((6 * y) + x), ov_i (Int.tmod s (h 96 9)), ov_i y, ov_i x, ov_r 90]) (pc2 := 83) b_272_71_10 rfl rfl ?_
        refine ov_getf (v := ov_i (h 90 29)) d_272_83 fl_Mo_119 (zb_90 I) (zs_90 I) rfl ?_
        have g17 := rg_90_29 I
        refine ov_icne (tgt := 99) d_272_86 (by decide) (by omega) (by omega) (fun c18 => ?_) (fun c18 => ?_)
        · skip
          refine ov_blk (ls2 := [(0, ov_r 90), (1, ov_i x), (2, ov_i y), (3, ov_i s), (4, ov_i (Int.tmod s (h 96 9))), (5, ov_i ((1200 * ((6 * y) + x)) + (Int.tmod s (h 96 9))))]) (st2 := [ov_i (Int.tmod s (h 96 9)), ov_i (Int.tmod s (h 96 9)), ov_i y, ov_i x, ov_r 90]) (pc2 := 101) b_272_99_1 rfl rfl ?_
          refine ov_cV (as := [ov_i x, ov_i y, ov_i (Int.tmod s (h 96 9)), ov_i (Int.tmod s (h 96 9))]) (st := []) (d2 := d - 1) d_272_101 lk_Mo_368 rfl (Nat.le_of_ble_eq_true rfl) (c := 1) (zb_90 I) (zs_90 I) ⟨by decide, rfl⟩ (by omega) (c_Mo_worthSeen_90 go wt sf sm k HV (d - 1) (by omega) U I x y (Int.tmod s (h 96 9)) (Int.tmod s (h 96 9)) (by omega) (by omega) (by omega) (by omega) (by omega) (by show x < (h 96 0) ∧ y < (h 96 1); omega) (by omega) (by show 0 ≤ (Int.tmod s (h 96 9)) ∧ (Int.tmod s (h 96 9)) < (h 96 9); omega) (by omega) (by show (h 90 26) = go; omega) (by show (h 90 29) = wt; omega) (by show (h 90 30) = sf; omega) (by show (h 90 25) = sm; omega) (by show 0 ≤ go ∧ go ≤ 3 + (h 96 8); omega) W CD MI) ?_
          rintro _ z37 h38 ⟨v20, rfl, I39, f19, e21, e22, e23, e24, e25, e26, e27, e28, e29, e30, e31, e32, e33, e34, y35, y36⟩
          have E40 : h38 91 = h 91 := e21
          have E41 : h38 92 = h 92 := e22
          have E42 : h38 93 = h 93 := e23
          have E43 : h38 94 = h 94 := e24
          have E44 : h38 95 = h 95 := e25
          have E45 : h38 96 = h 96 := e26
          have E46 : h38 97 = h 97 := e27
          have E47 : h38 98 = h 98 := e28
          have E48 : h38 99 = h 99 := e29
          have E49 : h38 100 = h 100 := e30
          have E50 : h38 103 = h 103 := e31
          have E51 : h38 104 = h 104 := e32
          have E52 : h38 109 = h 109 := e33
          have E53 : h38 114 = h 114 := e34
          show ov_R u d ov_m272 104 [(0, ov_r 90), (1, ov_i x), (2, ov_i y), (3, ov_i s), (4, ov_i (Int.tmod s (h 96 9))), (5, ov_i ((1200 * ((6 * y) + x)) + (Int.tmod s (h 96 9))))] [ov_i v20] z37 h38 (P_Mo_worthFrom_90 F z h go wt sf sm x y s)
          have f54 : (h38 90 2) = (h 90 2) ∧ (h38 90 7) = (h 90 7) ∧ (h38 90 8) = (h 90 8) ∧ (h38 90 13) = (h 90 13) ∧ (h38 90 20) = (h 90 20) ∧ (h38 90 22) = (h 90 22) ∧ (h38 90 25) = (h 90 25) ∧ (h38 90 26) = (h 90 26) ∧ (h38 90 28) = (h 90 28) ∧ (h38 90 29) = (h 90 29) ∧ (h38 90 30) = (h 90 30) ∧ (h38 90 34) = (h 90 34) ∧ -1 ≤ v20 ∧ v20 ≤ 89000 * (13 - x - y) := f19
          clear f19
          have y35_ : ov_MI (h 96) (h 103) (h 97) (h 98) go wt sf sm (h38 105) (h38 106) := y35
          have y36_ : (0 ≤ v20 ↔ ov_gs (h 96) (h 97) (h 98) (ov_go (h 96) (h 103) (h 97) (h 98) go wt sf) go x y (Int.tmod s (h 96 9)) (Int.tmod s (h 96 9))) := y36
          have hv : 0 ≤ v20 ↔ ov_go (h 96) (h 103) (h 97) (h 98) go wt sf x y (Int.tmod s (h 96 9)) := y36_.trans (ov_go_s (by omega) (by omega) (by omega) (by omega))
          refine ov_blk (ls2 := [(0, ov_r 90), (1, ov_i x), (2, ov_i y), (3, ov_i s), (4, ov_i (Int.tmod s (h 96 9))), (5, ov_i ((1200 * ((6 * y) + x)) + (Int.tmod s (h 96 9)))), (6, ov_i v20)]) (st2 := [ov_r 90]) (pc2 := 107) b_272_104_2 rfl rfl ?_
          refine ov_getf (v := ov_r 105) d_272_107 fl_Mo_110 (zb_90 I39) (zs_90 I39) (congrArg ov_r (rg_90_23 I39)) ?_
          refine ov_blk (ls2 := [(0, ov_r 90), (1, ov_i x), (2, ov_i y), (3, ov_i s), (4, ov_i (Int.tmod s (h 96 9))), (5, ov_i ((1200 * ((6 * y) + x)) + (Int.tmod s (h 96 9)))), (6, ov_i v20)]) (st2 := [ov_i v20, ov_i ((1200 * ((6 * y) + x)) + (Int.tmod s (h 96 9))), ov_r 105]) (pc2 := 114) b_272_110_2 rfl rfl ?_
          refine ov_iast d_272_114 (zb_105 I39) (zs_105 I39) (by omega) ?_
          have I55 := ua_105 (k := ((1200 * ((6 * y) + x)) + (Int.tmod s (h 96 9)))) (x := v20) I39 (by omega)
          refine ov_blk (ls2 := [(0, ov_r 90), (1, ov_i x), (2, ov_i y), (3, ov_i s), (4, ov_i (Int.tmod s (h 96 9))), (5, ov_i ((1200 * ((6 * y) + x)) + (Int.tmod s (h 96 9)))), (6, ov_i v20)]) (st2 := [ov_r 90]) (pc2 := 116) b_272_115_1 rfl rfl ?_
          refine ov_getf (v := ov_r 106) d_272_116 fl_Mo_113 (zb_90 I55) (zs_90 I55) (congrArg ov_r (rg_90_24 I55)) ?_
          refine ov_blk (ls2 := [(0, ov_r 90), (1, ov_i x), (2, ov_i y), (3, ov_i s), (4, ov_i (Int.tmod s (h 96 9))), (5, ov_i ((1200 * ((6 * y) + x)) + (Int.tmod s (h 96 9)))), (6, ov_i v20)]) (st2 := [ov_r 90, ov_i ((1200 * ((6 * y) + x)) + (Int.tmod s (h 96 9))), ov_r 106]) (pc2 := 122) b_272_119_2 rfl rfl ?_
          refine ov_getf (v := ov_i (h38 90 25)) d_272_122 fl_Mo_359 (zb_90 I55) (zs_90 I55) rfl ?_
          have g56 := rg_90_25 I39
          refine ov_iast d_272_125 (zb_106 I55) (zs_106 I55) (by omega) ?_
          have I57 := ua_106 (k := ((1200 * ((6 * y) + x)) + (Int.tmod s (h 96 9)))) (x := (h38 90 25)) I55 (by omega)
          have mw := ov_MI_w (x := x) (y := y) (t := (Int.tmod s (h 96 9))) (v := v20) y35_ (by omega) (by omega) (by omega) (by omega) hv
          have e5 : (ov_up (ov_up h38 105 ((1200 * ((6 * y) + x)) + (Int.tmod s (h 96 9))) v20) 106 ((1200 * ((6 * y) + x)) + (Int.tmod s (h 96 9))) (h38 90 25)) 105 = ov_rs (h38 105) ((1200 * ((6 * y) + x)) + (Int.tmod s (h 96 9))) v20 := ov_up_row h38 105 ((1200 * ((6 * y) + x)) + (Int.tmod s (h 96 9))) v20
          have e6 : (ov_up (ov_up h38 105 ((1200 * ((6 * y) + x)) + (Int.tmod s (h 96 9))) v20) 106 ((1200 * ((6 * y) + x)) + (Int.tmod s (h 96 9))) (h38 90 25)) 106 = ov_rs (h38 106) ((1200 * ((6 * y) + x)) + (Int.tmod s (h 96 9))) (h38 90 25) := ov_up_row (ov_up h38 105 ((1200 * ((6 * y) + x)) + (Int.tmod s (h 96 9))) v20) 106 ((1200 * ((6 * y) + x)) + (Int.tmod s (h 96 9))) (h38 90 25)
          have mi9 : ov_MI (h 96) (h 103) (h 97) (h 98) go wt sf sm ((ov_up (ov_up h38 105 ((1200 * ((6 * y) + x)) + (Int.tmod s (h 96 9))) v20) 106 ((1200 * ((6 * y) + x)) + (Int.tmod s (h 96 9))) (h38 90 25)) 105) ((ov_up (ov_up h38 105 ((1200 * ((6 * y) + x)) + (Int.tmod s (h 96 9))) v20) 106 ((1200 * ((6 * y) + x)) + (Int.tmod s (h 96 9))) (h38 90 25)) 106) := by rw [e5, e6, show (h38 90 25) = sm by omega]; exact mw
          have er : ((ov_up h38 105 ((1200 * ((6 * y) + x)) + (Int.tmod s (h 96 9))) v20) 105 ((1200 * ((6 * y) + x)) + (Int.tmod s (h 96 9)))) = v20 := by show (ov_up h38 105 ((1200 * ((6 * y) + x)) + (Int.tmod s (h 96 9))) v20) 105 ((1200 * ((6 * y) + x)) + (Int.tmod s (h 96 9))) = _; rw [ov_up_row, ov_rs_eq]
          refine ov_blk (ls2 := [(0, ov_r 90), (1, ov_i x), (2, ov_i y), (3, ov_i s), (4, ov_i (Int.tmod s (h 96 9))), (5, ov_i ((1200 * ((6 * y) + x)) + (Int.tmod s (h 96 9)))), (6, ov_i v20)]) (st2 := [ov_r 90]) (pc2 := 127) b_272_126_1 rfl rfl ?_
          refine ov_getf (v := ov_r 105) d_272_127 fl_Mo_110 (zb_90 I57) (zs_90 I57) (congrArg ov_r (rg_90_23 I57)) ?_
          refine ov_blk (ls2 := [(0, ov_r 90), (1, ov_i x), (2, ov_i y), (3, ov_i s), (4, ov_i (Int.tmod s (h 96 9))), (5, ov_i ((1200 * ((6 * y) + x)) + (Int.tmod s (h 96 9)))), (6, ov_i v20)]) (st2 := [ov_i ((1200 * ((6 * y) + x)) + (Int.tmod s (h 96 9))), ov_r 105]) (pc2 := 132) b_272_130_1 rfl rfl ?_
          refine ov_iald d_272_132 (zb_105 I57) (zs_105 I57) (by omega) ?_
          show ov_R u d ov_m272 133 [(0, ov_r 90), (1, ov_i x), (2, ov_i y), (3, ov_i s), (4, ov_i (Int.tmod s (h 96 9))), (5, ov_i ((1200 * ((6 * y) + x)) + (Int.tmod s (h 96 9)))), (6, ov_i v20)] [ov_i ((ov_up h38 105 ((1200 * ((6 * y) + x)) + (Int.tmod s (h 96 9))) v20) 105 ((1200 * ((6 * y) + x)) + (Int.tmod s (h 96 9))))] z37 (ov_up (ov_up h38 105 ((1200 * ((6 * y) + x)) + (Int.tmod s (h 96 9))) v20) 106 ((1200 * ((6 * y) + x)) + (Int.tmod s (h 96 9))) (h38 90 25)) (P_Mo_worthFrom_90 F z h go wt sf sm x y s)
          exact ov_reti (st := []) d_272_133 rfl ⟨_, rfl, I57, (by show (h38 90 2) = (h 90 2) ∧ (h38 90 7) = (h 90 7) ∧ (h38 90 8) = (h 90 8) ∧ (h38 90 13) = (h 90 13) ∧ (h38 90 20) = (h 90 20) ∧ (h38 90 22) = (h 90 22) ∧ (h38 90 25) = (h 90 25) ∧ (h38 90 26) = (h 90 26) ∧ (h38 90 28) = (h 90 28) ∧ (h38 90 29) = (h 90 29) ∧ (h38 90 30) = (h 90 30) ∧ (h38 90 34) = (h 90 34) ∧ -1 ≤ ((ov_up h38 105 ((1200 * ((6 * y) + x)) + (Int.tmod s (h 96 9))) v20) 105 ((1200 * ((6 * y) + x)) + (Int.tmod s (h 96 9)))) ∧ ((ov_up h38 105 ((1200 * ((6 * y) + x)) + (Int.tmod s (h 96 9))) v20) 105 ((1200 * ((6 * y) + x)) + (Int.tmod s (h 96 9)))) ≤ 89000 * (13 - x - y); omega), E40, E41, E42, E43, E44, E45, E46, E47, E48, E49, E50, E51, E52, E53, mi9, (by rw [← gt2, er]; exact hv)⟩
        · skip
          refine ov_blk (ls2 := [(0, ov_r 90), (1, ov_i x), (2, ov_i y), (3, ov_i s), (4, ov_i (Int.tmod s (h 96 9))), (5, ov_i ((1200 * ((6 * y) + x)) + (Int.tmod s (h 96 9))))]) (st2 := [ov_r 90, ov_i (Int.tmod s (h 96 9)), ov_i (Int.tmod s (h 96 9)), ov_i y, ov_i x, ov_r 90]) (pc2 := 92) b_272_89_2 rfl rfl ?_
          refine ov_getf (v := ov_i (h 90 30)) d_272_92 fl_Mo_356 (zb_90 I) (zs_90 I) rfl ?_
          have g58 := rg_90_30 I
          refine ov_blk (ls2 := [(0, ov_r 90), (1, ov_i x), (2, ov_i y), (3, ov_i s), (4, ov_i (Int.tmod s (h 96 9))), (5, ov_i ((1200 * ((6 * y) + x)) + (Int.tmod s (h 96 9))))]) (st2 := [ov_i ((Int.tmod s (h 96 9)) + (h 90 30)), ov_i (Int.tmod s (h 96 9)), ov_i y, ov_i x, ov_r 90]) (pc2 := 96) b_272_95_1 rfl rfl ?_
          refine ov_goto (tgt := 101) d_272_96 (by decide) ?_
          refine ov_cV (as := [ov_i x, ov_i y, ov_i (Int.tmod s (h 96 9)), ov_i ((Int.tmod s (h 96 9)) + (h 90 30))]) (st := []) (d2 := d - 1) d_272_101 lk_Mo_368 rfl (Nat.le_of_ble_eq_true rfl) (c := 1) (zb_90 I) (zs_90 I) ⟨by decide, rfl⟩ (by omega) (c_Mo_worthSeen_90 go wt sf sm k HV (d - 1) (by omega) U I x y (Int.tmod s (h 96 9)) ((Int.tmod s (h 96 9)) + (h 90 30)) (by omega) (by omega) (by omega) (by omega) (by omega) (by show x < (h 96 0) ∧ y < (h 96 1); omega) (by omega) (by show 0 ≤ (Int.tmod s (h 96 9)) ∧ (Int.tmod s (h 96 9)) < (h 96 9); omega) (by omega) (by show (h 90 26) = go; omega) (by show (h 90 29) = wt; omega) (by show (h 90 30) = sf; omega) (by show (h 90 25) = sm; omega) (by show 0 ≤ go ∧ go ≤ 3 + (h 96 8); omega) W CD MI) ?_
          rintro _ z77 h78 ⟨v60, rfl, I79, f59, e61, e62, e63, e64, e65, e66, e67, e68, e69, e70, e71, e72, e73, e74, y75, y76⟩
          have E80 : h78 91 = h 91 := e61
          have E81 : h78 92 = h 92 := e62
          have E82 : h78 93 = h 93 := e63
          have E83 : h78 94 = h 94 := e64
          have E84 : h78 95 = h 95 := e65
          have E85 : h78 96 = h 96 := e66
          have E86 : h78 97 = h 97 := e67
          have E87 : h78 98 = h 98 := e68
          have E88 : h78 99 = h 99 := e69
          have E89 : h78 100 = h 100 := e70
          have E90 : h78 103 = h 103 := e71
          have E91 : h78 104 = h 104 := e72
          have E92 : h78 109 = h 109 := e73
          have E93 : h78 114 = h 114 := e74
          show ov_R u d ov_m272 104 [(0, ov_r 90), (1, ov_i x), (2, ov_i y), (3, ov_i s), (4, ov_i (Int.tmod s (h 96 9))), (5, ov_i ((1200 * ((6 * y) + x)) + (Int.tmod s (h 96 9))))] [ov_i v60] z77 h78 (P_Mo_worthFrom_90 F z h go wt sf sm x y s)
          have f94 : (h78 90 2) = (h 90 2) ∧ (h78 90 7) = (h 90 7) ∧ (h78 90 8) = (h 90 8) ∧ (h78 90 13) = (h 90 13) ∧ (h78 90 20) = (h 90 20) ∧ (h78 90 22) = (h 90 22) ∧ (h78 90 25) = (h 90 25) ∧ (h78 90 26) = (h 90 26) ∧ (h78 90 28) = (h 90 28) ∧ (h78 90 29) = (h 90 29) ∧ (h78 90 30) = (h 90 30) ∧ (h78 90 34) = (h 90 34) ∧ -1 ≤ v60 ∧ v60 ≤ 89000 * (13 - x - y) := f59
          clear f59
          have y75_ : ov_MI (h 96) (h 103) (h 97) (h 98) go wt sf sm (h78 105) (h78 106) := y75
          have y76_ : (0 ≤ v60 ↔ ov_gs (h 96) (h 97) (h 98) (ov_go (h 96) (h 103) (h 97) (h 98) go wt sf) go x y (Int.tmod s (h 96 9)) ((Int.tmod s (h 96 9)) + (h 90 30))) := y76
          have hv : 0 ≤ v60 ↔ ov_go (h 96) (h 103) (h 97) (h 98) go wt sf x y (Int.tmod s (h 96 9)) := y76_.trans (ov_go_s (by omega) (by omega) (by omega) (by omega))
          refine ov_blk (ls2 := [(0, ov_r 90), (1, ov_i x), (2, ov_i y), (3, ov_i s), (4, ov_i (Int.tmod s (h 96 9))), (5, ov_i ((1200 * ((6 * y) + x)) + (Int.tmod s (h 96 9)))), (6, ov_i v60)]) (st2 := [ov_r 90]) (pc2 := 107) b_272_104_2 rfl rfl ?_
          refine ov_getf (v := ov_r 105) d_272_107 fl_Mo_110 (zb_90 I79) (zs_90 I79) (congrArg ov_r (rg_90_23 I79)) ?_
          refine ov_blk (ls2 := [(0, ov_r 90), (1, ov_i x), (2, ov_i y), (3, ov_i s), (4, ov_i (Int.tmod s (h 96 9))), (5, ov_i ((1200 * ((6 * y) + x)) + (Int.tmod s (h 96 9)))), (6, ov_i v60)]) (st2 := [ov_i v60, ov_i ((1200 * ((6 * y) + x)) + (Int.tmod s (h 96 9))), ov_r 105]) (pc2 := 114) b_272_110_2 rfl rfl ?_
          refine ov_iast d_272_114 (zb_105 I79) (zs_105 I79) (by omega) ?_
          have I95 := ua_105 (k := ((1200 * ((6 * y) + x)) + (Int.tmod s (h 96 9)))) (x := v60) I79 (by omega)
          refine ov_blk (ls2 := [(0, ov_r 90), (1, ov_i x), (2, ov_i y), (3, ov_i s), (4, ov_i (Int.tmod s (h 96 9))), (5, ov_i ((1200 * ((6 * y) + x)) + (Int.tmod s (h 96 9)))), (6, ov_i v60)]) (st2 := [ov_r 90]) (pc2 := 116) b_272_115_1 rfl rfl ?_
          refine ov_getf (v := ov_r 106) d_272_116 fl_Mo_113 (zb_90 I95) (zs_90 I95) (congrArg ov_r (rg_90_24 I95)) ?_
          refine ov_blk (ls2 := [(0, ov_r 90), (1, ov_i x), (2, ov_i y), (3, ov_i s), (4, ov_i (Int.tmod s (h 96 9))), (5, ov_i ((1200 * ((6 * y) + x)) + (Int.tmod s (h 96 9)))), (6, ov_i v60)]) (st2 := [ov_r 90, ov_i ((1200 * ((6 * y) + x)) + (Int.tmod s (h 96 9))), ov_r 106]) (pc2 := 122) b_272_119_2 rfl rfl ?_
          refine ov_getf (v := ov_i (h78 90 25)) d_272_122 fl_Mo_359 (zb_90 I95) (zs_90 I95) rfl ?_
          have g96 := rg_90_25 I79
          refine ov_iast d_272_125 (zb_106 I95) (zs_106 I95) (by omega) ?_
          have I97 := ua_106 (k := ((1200 * ((6 * y) + x)) + (Int.tmod s (h 96 9)))) (x := (h78 90 25)) I95 (by omega)
          have mw := ov_MI_w (x := x) (y := y) (t := (Int.tmod s (h 96 9))) (v := v60) y75_ (by omega) (by omega) (by omega) (by omega) hv
          have e5 : (ov_up (ov_up h78 105 ((1200 * ((6 * y) + x)) + (Int.tmod s (h 96 9))) v60) 106 ((1200 * ((6 * y) + x)) + (Int.tmod s (h 96 9))) (h78 90 25)) 105 = ov_rs (h78 105) ((1200 * ((6 * y) + x)) + (Int.tmod s (h 96 9))) v60 := ov_up_row h78 105 ((1200 * ((6 * y) + x)) + (Int.tmod s (h 96 9))) v60
          have e6 : (ov_up (ov_up h78 105 ((1200 * ((6 * y) + x)) + (Int.tmod s (h 96 9))) v60) 106 ((1200 * ((6 * y) + x)) + (Int.tmod s (h 96 9))) (h78 90 25)) 106 = ov_rs (h78 106) ((1200 * ((6 * y) + x)) + (Int.tmod s (h 96 9))) (h78 90 25) := ov_up_row (ov_up h78 105 ((1200 * ((6 * y) + x)) + (Int.tmod s (h 96 9))) v60) 106 ((1200 * ((6 * y) + x)) + (Int.tmod s (h 96 9))) (h78 90 25)
          have mi9 : ov_MI (h 96) (h 103) (h 97) (h 98) go wt sf sm ((ov_up (ov_up h78 105 ((1200 * ((6 * y) + x)) + (Int.tmod s (h 96 9))) v60) 106 ((1200 * ((6 * y) + x)) + (Int.tmod s (h 96 9))) (h78 90 25)) 105) ((ov_up (ov_up h78 105 ((1200 * ((6 * y) + x)) + (Int.tmod s (h 96 9))) v60) 106 ((1200 * ((6 * y) + x)) + (Int.tmod s (h 96 9))) (h78 90 25)) 106) := by rw [e5, e6, show (h78 90 25) = sm by omega]; exact mw
          have er : ((ov_up h78 105 ((1200 * ((6 * y) + x)) + (Int.tmod s (h 96 9))) v60) 105 ((1200 * ((6 * y) + x)) + (Int.tmod s (h 96 9)))) = v60 := by show (ov_up h78 105 ((1200 * ((6 * y) + x)) + (Int.tmod s (h 96 9))) v60) 105 ((1200 * ((6 * y) + x)) + (Int.tmod s (h 96 9))) = _; rw [ov_up_row, ov_rs_eq]
          refine ov_blk (ls2 := [(0, ov_r 90), (1, ov_i x), (2, ov_i y), (3, ov_i s), (4, ov_i (Int.tmod s (h 96 9))), (5, ov_i ((1200 * ((6 * y) + x)) + (Int.tmod s (h 96 9)))), (6, ov_i v60)]) (st2 := [ov_r 90]) (pc2 := 127) b_272_126_1 rfl rfl ?_
          refine ov_getf (v := ov_r 105) d_272_127 fl_Mo_110 (zb_90 I97) (zs_90 I97) (congrArg ov_r (rg_90_23 I97)) ?_
          refine ov_blk (ls2 := [(0, ov_r 90), (1, ov_i x), (2, ov_i y), (3, ov_i s), (4, ov_i (Int.tmod s (h 96 9))), (5, ov_i ((1200 * ((6 * y) + x)) + (Int.tmod s (h 96 9)))), (6, ov_i v60)]) (st2 := [ov_i ((1200 * ((6 * y) + x)) + (Int.tmod s (h 96 9))), ov_r 105]) (pc2 := 132) b_272_130_1 rfl rfl ?_
          refine ov_iald d_272_132 (zb_105 I97) (zs_105 I97) (by omega) ?_
          show ov_R u d ov_m272 133 [(0, ov_r 90), (1, ov_i x), (2, ov_i y), (3, ov_i s), (4, ov_i (Int.tmod s (h 96 9))), (5, ov_i ((1200 * ((6 * y) + x)) + (Int.tmod s (h 96 9)))), (6, ov_i v60)] [ov_i ((ov_up h78 105 ((1200 * ((6 * y) + x)) + (Int.tmod s (h 96 9))) v60) 105 ((1200 * ((6 * y) + x)) + (Int.tmod s (h 96 9))))] z77 (ov_up (ov_up h78 105 ((1200 * ((6 * y) + x)) + (Int.tmod s (h 96 9))) v60) 106 ((1200 * ((6 * y) + x)) + (Int.tmod s (h 96 9))) (h78 90 25)) (P_Mo_worthFrom_90 F z h go wt sf sm x y s)
          exact ov_reti (st := []) d_272_133 rfl ⟨_, rfl, I97, (by show (h78 90 2) = (h 90 2) ∧ (h78 90 7) = (h 90 7) ∧ (h78 90 8) = (h 90 8) ∧ (h78 90 13) = (h 90 13) ∧ (h78 90 20) = (h 90 20) ∧ (h78 90 22) = (h 90 22) ∧ (h78 90 25) = (h 90 25) ∧ (h78 90 26) = (h 90 26) ∧ (h78 90 28) = (h 90 28) ∧ (h78 90 29) = (h 90 29) ∧ (h78 90 30) = (h 90 30) ∧ (h78 90 34) = (h 90 34) ∧ -1 ≤ ((ov_up h78 105 ((1200 * ((6 * y) + x)) + (Int.tmod s (h 96 9))) v60) 105 ((1200 * ((6 * y) + x)) + (Int.tmod s (h 96 9)))) ∧ ((ov_up h78 105 ((1200 * ((6 * y) + x)) + (Int.tmod s (h 96 9))) v60) 105 ((1200 * ((6 * y) + x)) + (Int.tmod s (h 96 9)))) ≤ 89000 * (13 - x - y); omega), E80, E81, E82, E83, E84, E85, E86, E87, E88, E89, E90, E91, E92, E93, mi9, (by rw [← gt2, er]; exact hv)⟩
      · skip
        have f14_ : v13 = 1 := by omega
        have f98 : ((h 96 (10 + 4 * (6 * y + x))) = 2 ∧ ¬ (h 103 (4 + 6 * y + x)) = 1 ∧ ¬ 6 * y + x = (h 90 29)) := f14.2.1 (by omega)
        clear f14
        refine ov_blk (ls2 := [(0, ov_r 90), (1, ov_i x), (2, ov_i y), (3, ov_i s), (4, ov_i (Int.tmod s (h 96 9))), (5, ov_i ((1200 * ((6 * y) + x)) + (Int.tmod s (h 96 9))))]) (st2 := [ov_i (Int.tmod s (h 96 9)), ov_i y, ov_i x, ov_r 90]) (pc2 := 65) b_272_60_4 rfl rfl ?_
        refine ov_cV (as := [ov_i x, ov_i y, ov_i (Int.tmod s (h 96 9))]) (st := []) (d2 := d - 1) d_272_65 lk_Mo_365 rfl (Nat.le_of_ble_eq_true rfl) (c := 1) (zb_90 I) (zs_90 I) ⟨by decide, rfl⟩ (by omega) (c_Mo_worthHidden_90 go wt sf sm k HV (d - 1) (by omega) U I x y (Int.tmod s (h 96 9)) (by omega) (by omega) (by omega) (by omega) (by show x < (h 96 0) ∧ y < (h 96 1); omega) (by omega) (by show 0 ≤ (Int.tmod s (h 96 9)) ∧ (Int.tmod s (h 96 9)) < (h 96 9); omega) (by show (h 96 (10 + 4 * (6 * y + x))) = 2; omega) (by show (h 90 26) = go; omega) (by show (h 90 29) = wt; omega) (by show (h 90 30) = sf; omega) (by show (h 90 25) = sm; omega) (by show 0 ≤ go ∧ go ≤ 3 + (h 96 8); omega) W CD MI) ?_
        rintro _ z117 h118 ⟨v100, rfl, I119, f99, e101, e102, e103, e104, e105, e106, e107, e108, e109, e110, e111, e112, e113, e114, y115, y116⟩
        have E120 : h118 91 = h 91 := e101
        have E121 : h118 92 = h 92 := e102
        have E122 : h118 93 = h 93 := e103
        have E123 : h118 94 = h 94 := e104
        have E124 : h118 95 = h 95 := e105
        have E125 : h118 96 = h 96 := e106
        have E126 : h118 97 = h 97 := e107
        have E127 : h118 98 = h 98 := e108
        have E128 : h118 99 = h 99 := e109
        have E129 : h118 100 = h 100 := e110
        have E130 : h118 103 = h 103 := e111
        have E131 : h118 104 = h 104 := e112
        have E132 : h118 109 = h 109 := e113
        have E133 : h118 114 = h 114 := e114
        show ov_R u d ov_m272 68 [(0, ov_r 90), (1, ov_i x), (2, ov_i y), (3, ov_i s), (4, ov_i (Int.tmod s (h 96 9))), (5, ov_i ((1200 * ((6 * y) + x)) + (Int.tmod s (h 96 9))))] [ov_i v100] z117 h118 (P_Mo_worthFrom_90 F z h go wt sf sm x y s)
        have f134 : (h118 90 2) = (h 90 2) ∧ (h118 90 7) = (h 90 7) ∧ (h118 90 8) = (h 90 8) ∧ (h118 90 13) = (h 90 13) ∧ (h118 90 20) = (h 90 20) ∧ (h118 90 22) = (h 90 22) ∧ (h118 90 25) = (h 90 25) ∧ (h118 90 26) = (h 90 26) ∧ (h118 90 28) = (h 90 28) ∧ (h118 90 29) = (h 90 29) ∧ (h118 90 30) = (h 90 30) ∧ (h118 90 34) = (h 90 34) ∧ -1 ≤ v100 ∧ v100 ≤ 89000 * (13 - x - y) := f99
        clear f99
        have y115_ : ov_MI (h 96) (h 103) (h 97) (h 98) go wt sf sm (h118 105) (h118 106) := y115
        have y116_ : (0 ≤ v100 ↔ ∀ q : Int, 0 ≤ q → q < (h 96) (10 + 4 * (6 * y + x) + 1) → ov_gs (h 96) (h 97) (h 98) (ov_go (h 96) (h 103) (h 97) (h 98) go wt sf) go x y (Int.tmod s (h 96 9)) q) := y116
        refine ov_goto (tgt := 104) d_272_68 (by decide) ?_
        have hv : 0 ≤ v100 ↔ ov_go (h 96) (h 103) (h 97) (h 98) go wt sf x y (Int.tmod s (h 96 9)) := y116_.trans (ov_go_h (by omega) (by omega) (by omega))
        refine ov_blk (ls2 := [(0, ov_r 90), (1, ov_i x), (2, ov_i y), (3, ov_i s), (4, ov_i (Int.tmod s (h 96 9))), (5, ov_i ((1200 * ((6 * y) + x)) + (Int.tmod s (h 96 9)))), (6, ov_i v100)]) (st2 := [ov_r 90]) (pc2 := 107) b_272_104_2 rfl rfl ?_
        refine ov_getf (v := ov_r 105) d_272_107 fl_Mo_110 (zb_90 I119) (zs_90 I119) (congrArg ov_r (rg_90_23 I119)) ?_
        refine ov_blk (ls2 := [(0, ov_r 90), (1, ov_i x), (2, ov_i y), (3, ov_i s), (4, ov_i (Int.tmod s (h 96 9))), (5, ov_i ((1200 * ((6 * y) + x)) + (Int.tmod s (h 96 9)))), (6, ov_i v100)]) (st2 := [ov_i v100, ov_i ((1200 * ((6 * y) + x)) + (Int.tmod s (h 96 9))), ov_r 105]) (pc2 := 114) b_272_110_2 rfl rfl ?_
        refine ov_iast d_272_114 (zb_105 I119) (zs_105 I119) (by omega) ?_
        have I135 := ua_105 (k := ((1200 * ((6 * y) + x)) + (Int.tmod s (h 96 9)))) (x := v100) I119 (by omega)
        refine ov_blk (ls2 := [(0, ov_r 90), (1, ov_i x), (2, ov_i y), (3, ov_i s), (4, ov_i (Int.tmod s (h 96 9))), (5, ov_i ((1200 * ((6 * y) + x)) + (Int.tmod s (h 96 9)))), (6, ov_i v100)]) (st2 := [ov_r 90]) (pc2 := 116) b_272_115_1 rfl rfl ?_
        refine ov_getf (v := ov_r 106) d_272_116 fl_Mo_113 (zb_90 I135) (zs_90 I135) (congrArg ov_r (rg_90_24 I135)) ?_
        refine ov_blk (ls2 := [(0, ov_r 90), (1, ov_i x), (2, ov_i y), (3, ov_i s), (4, ov_i (Int.tmod s (h 96 9))), (5, ov_i ((1200 * ((6 * y) + x)) + (Int.tmod s (h 96 9)))), (6, ov_i v100)]) (st2 := [ov_r 90, ov_i ((1200 * ((6 * y) + x)) + (Int.tmod s (h 96 9))), ov_r 106]) (pc2 := 122) b_272_119_2 rfl rfl ?_
        refine ov_getf (v := ov_i (h118 90 25)) d_272_122 fl_Mo_359 (zb_90 I135) (zs_90 I135) rfl ?_
        have g136 := rg_90_25 I119
        refine ov_iast d_272_125 (zb_106 I135) (zs_106 I135) (by omega) ?_
        have I137 := ua_106 (k := ((1200 * ((6 * y) + x)) + (Int.tmod s (h 96 9)))) (x := (h118 90 25)) I135 (by omega)
        have mw := ov_MI_w (x := x) (y := y) (t := (Int.tmod s (h 96 9))) (v := v100) y115_ (by omega) (by omega) (by omega) (by omega) hv
        have e5 : (ov_up (ov_up h118 105 ((1200 * ((6 * y) + x)) + (Int.tmod s (h 96 9))) v100) 106 ((1200 * ((6 * y) + x)) + (Int.tmod s (h 96 9))) (h118 90 25)) 105 = ov_rs (h118 105) ((1200 * ((6 * y) + x)) + (Int.tmod s (h 96 9))) v100 := ov_up_row h118 105 ((1200 * ((6 * y) + x)) + (Int.tmod s (h 96 9))) v100
        have e6 : (ov_up (ov_up h118 105 ((1200 * ((6 * y) + x)) + (Int.tmod s (h 96 9))) v100) 106 ((1200 * ((6 * y) + x)) + (Int.tmod s (h 96 9))) (h118 90 25)) 106 = ov_rs (h118 106) ((1200 * ((6 * y) + x)) + (Int.tmod s (h 96 9))) (h118 90 25) := ov_up_row (ov_up h118 105 ((1200 * ((6 * y) + x)) + (Int.tmod s (h 96 9))) v100) 106 ((1200 * ((6 * y) + x)) + (Int.tmod s (h 96 9))) (h118 90 25)
        have mi9 : ov_MI (h 96) (h 103) (h 97) (h 98) go wt sf sm ((ov_up (ov_up h118 105 ((1200 * ((6 * y) + x)) + (Int.tmod s (h 96 9))) v100) 106 ((1200 * ((6 * y) + x)) + (Int.tmod s (h 96 9))) (h118 90 25)) 105) ((ov_up (ov_up h118 105 ((1200 * ((6 * y) + x)) + (Int.tmod s (h 96 9))) v100) 106 ((1200 * ((6 * y) + x)) + (Int.tmod s (h 96 9))) (h118 90 25)) 106) := by rw [e5, e6, show (h118 90 25) = sm by omega]; exact mw
        have er : ((ov_up h118 105 ((1200 * ((6 * y) + x)) + (Int.tmod s (h 96 9))) v100) 105 ((1200 * ((6 * y) + x)) + (Int.tmod s (h 96 9)))) = v100 := by show (ov_up h118 105 ((1200 * ((6 * y) + x)) + (Int.tmod s (h 96 9))) v100) 105 ((1200 * ((6 * y) + x)) + (Int.tmod s (h 96 9))) = _; rw [ov_up_row, ov_rs_eq]
        refine ov_blk (ls2 := [(0, ov_r 90), (1, ov_i x), (2, ov_i y), (3, ov_i s), (4, ov_i (Int.tmod s (h 96 9))), (5, ov_i ((1200 * ((6 * y) + x)) + (Int.tmod s (h 96 9)))), (6, ov_i v100)]) (st2 := [ov_r 90]) (pc2 := 127) b_272_126_1 rfl rfl ?_
        refine ov_getf (v := ov_r 105) d_272_127 fl_Mo_110 (zb_90 I137) (zs_90 I137) (congrArg ov_r (rg_90_23 I137)) ?_
        refine ov_blk (ls2 := [(0, ov_r 90), (1, ov_i x), (2, ov_i y), (3, ov_i s), (4, ov_i (Int.tmod s (h 96 9))), (5, ov_i ((1200 * ((6 * y) + x)) + (Int.tmod s (h 96 9)))), (6, ov_i v100)]) (st2 := [ov_i ((1200 * ((6 * y) + x)) + (Int.tmod s (h 96 9))), ov_r 105]) (pc2 := 132) b_272_130_1 rfl rfl ?_
        refine ov_iald d_272_132 (zb_105 I137) (zs_105 I137) (by omega) ?_
        show ov_R u d ov_m272 133 [(0, ov_r 90), (1, ov_i x), (2, ov_i y), (3, ov_i s), (4, ov_i (Int.tmod s (h 96 9))), (5, ov_i ((1200 * ((6 * y) + x)) + (Int.tmod s (h 96 9)))), (6, ov_i v100)] [ov_i ((ov_up h118 105 ((1200 * ((6 * y) + x)) + (Int.tmod s (h 96 9))) v100) 105 ((1200 * ((6 * y) + x)) + (Int.tmod s (h 96 9))))] z117 (ov_up (ov_up h118 105 ((1200 * ((6 * y) + x)) + (Int.tmod s (h 96 9))) v100) 106 ((1200 * ((6 * y) + x)) + (Int.tmod s (h 96 9))) (h118 90 25)) (P_Mo_worthFrom_90 F z h go wt sf sm x y s)
        exact ov_reti (st := []) d_272_133 rfl ⟨_, rfl, I137, (by show (h118 90 2) = (h 90 2) ∧ (h118 90 7) = (h 90 7) ∧ (h118 90 8) = (h 90 8) ∧ (h118 90 13) = (h 90 13) ∧ (h118 90 20) = (h 90 20) ∧ (h118 90 22) = (h 90 22) ∧ (h118 90 25) = (h 90 25) ∧ (h118 90 26) = (h 90 26) ∧ (h118 90 28) = (h 90 28) ∧ (h118 90 29) = (h 90 29) ∧ (h118 90 30) = (h 90 30) ∧ (h118 90 34) = (h 90 34) ∧ -1 ≤ ((ov_up h118 105 ((1200 * ((6 * y) + x)) + (Int.tmod s (h 96 9))) v100) 105 ((1200 * ((6 * y) + x)) + (Int.tmod s (h 96 9)))) ∧ ((ov_up h118 105 ((1200 * ((6 * y) + x)) + (Int.tmod s (h 96 9))) v100) 105 ((1200 * ((6 * y) + x)) + (Int.tmod s (h 96 9)))) ≤ 89000 * (13 - x - y); omega), E120, E121, E122, E123, E124, E125, E126, E127, E128, E129, E130, E131, E132, E133, mi9, (by rw [← gt2, er]; exact hv)⟩
  · skip
    have f3_ : v2 = 1 := by omega
    have f138 : x = (h 96 0) - 1 ∧ y = (h 96 1) - 1 := f3.2.1 (by omega)
    clear f3
    refine ov_blk (ls2 := [(0, ov_r 90), (1, ov_i x), (2, ov_i y), (3, ov_i s)]) (st2 := [ov_i 0]) (pc2 := 10) b_272_9_1 rfl rfl ?_
    exact ov_reti (st := []) d_272_10 rfl ⟨_, rfl, I, ⟨rfl, rfl, rfl, rfl, rfl, rfl, rfl, rfl, rfl, rfl, rfl, rfl, (by show -1 ≤ 0 ∧ 0 ≤ 89000 * (13 - x - y); omega)⟩, rfl, rfl, rfl, rfl, rfl, rfl, rfl, rfl, rfl, rfl, rfl, rfl, rfl, rfl, MI, (iff_of_true (by decide) (ov_go_home (by omega) (by omega)))⟩
theorem c_Mo_worthFrom_90_all {u : ov_U} {F : ov_H × ov_Z} (go : Int) (wt : Int) (sf : Int) (sm : Int) (k : Nat) : ∀ {z : ov_Z} {h : ov_H} (d : Nat) (hd : (10 + 5 * k + 4) ≤ d) (U : ov_cap u) (I : ov_N F z h) (x : Int) (y : Int) (s : Int) (g_x : ov_g x) (g_y : ov_g y) (g_s : ov_g s) (p0 : 0 ≤ x ∧ x ≤ 5 ∧ 0 ≤ y ∧ y ≤ 8) (p1 : x < (h 96 0) ∧ y < (h 96 1)) (p2 : x + y + (k : Int) = 13) (p3 : 0 ≤ s ∧ s ≤ 2000000) (p4 : (h 90 26) = go) (p5 : (h 90 29) = wt) (p6 : (h 90 30) = sf) (p7 : (h 90 25) = sm) (p8 : 0 ≤ go ∧ go ≤ 3 + (h 96 8)) (W : ov_WT (h 96)) (CD : ov_CD (h 96) (h 97) (h 98)) (MI : ov_MI (h 96) (h 103) (h 97) (h 98) go wt sf sm (h 105) (h 106)), ov_T u d ov_m272 [ov_r 90, ov_i x, ov_i y, ov_i s] z h (P_Mo_worthFrom_90 F z h go wt sf sm x y s) := by
  induction k using Nat.strongRecOn with
  | ind k ih => exact fun {z} {h} => @c_Mo_worthFrom_90 u F go wt sf sm k (fun k' hk => @ih k' hk) z h
theorem c_Mo_worthHidden_90_all {u : ov_U} {F : ov_H × ov_Z} (go : Int) (wt : Int) (sf : Int) (sm : Int) (k : Nat) : ∀ {z : ov_Z} {h : ov_H} (d : Nat) (hd : (10 + 5 * k + 3) ≤ d) (U : ov_cap u) (I : ov_N F z h) (x : Int) (y : Int) (t : Int) (g_x : ov_g x) (g_y : ov_g y) (g_t : ov_g t) (p0 : 0 ≤ x ∧ x ≤ 5 ∧ 0 ≤ y ∧ y ≤ 8) (p1 : x < (h 96 0) ∧ y < (h 96 1)) (p2 : x + y + (k : Int) = 13) (p3 : 0 ≤ t ∧ t < (h 96 9)) (p4 : (h 96 (10 + 4 * (6 * y + x))) = 2) (p5 : (h 90 26) = go) (p6 : (h 90 29) = wt) (p7 : (h 90 30) = sf) (p8 : (h 90 25) = sm) (p9 : 0 ≤ go ∧ go ≤ 3 + (h 96 8)) (W : ov_WT (h 96)) (CD : ov_CD (h 96) (h 97) (h 98)) (MI : ov_MI (h 96) (h 103) (h 97) (h 98) go wt sf sm (h 105) (h 106)), ov_T u d ov_m274 [ov_r 90, ov_i x, ov_i y, ov_i t] z h (P_Mo_worthHidden_90 F z h go wt sf sm x y t) := fun {z} {h} => @c_Mo_worthHidden_90 u F go wt sf sm k (fun k' _ => @c_Mo_worthFrom_90_all u F go wt sf sm k') z h
theorem c_Mo_worthSeen_90_all {u : ov_U} {F : ov_H × ov_Z} (go : Int) (wt : Int) (sf : Int) (sm : Int) (k : Nat) : ∀ {z : ov_Z} {h : ov_H} (d : Nat) (hd : (10 + 5 * k + 2) ≤ d) (U : ov_cap u) (I : ov_N F z h) (x : Int) (y : Int) (t : Int) (sn : Int) (g_x : ov_g x) (g_y : ov_g y) (g_t : ov_g t) (g_sn : ov_g sn) (p0 : 0 ≤ x ∧ x ≤ 5 ∧ 0 ≤ y ∧ y ≤ 8) (p1 : x < (h 96 0) ∧ y < (h 96 1)) (p2 : x + y + (k : Int) = 13) (p3 : 0 ≤ t ∧ t < (h 96 9)) (p4 : 0 ≤ sn ∧ sn ≤ 3000) (p5 : (h 90 26) = go) (p6 : (h 90 29) = wt) (p7 : (h 90 30) = sf) (p8 : (h 90 25) = sm) (p9 : 0 ≤ go ∧ go ≤ 3 + (h 96 8)) (W : ov_WT (h 96)) (CD : ov_CD (h 96) (h 97) (h 98)) (MI : ov_MI (h 96) (h 103) (h 97) (h 98) go wt sf sm (h 105) (h 106)), ov_T u d ov_m275 [ov_r 90, ov_i x, ov_i y, ov_i t, ov_i sn] z h (P_Mo_worthSeen_90 F z h go wt sf sm x y t sn) := fun {z} {h} => @c_Mo_worthSeen_90 u F go wt sf sm k (fun k' _ => @c_Mo_worthFrom_90_all u F go wt sf sm k') z h
theorem c_Mo_worthBy_90_all {u : ov_U} {F : ov_H × ov_Z} (go : Int) (wt : Int) (sf : Int) (sm : Int) (k : Nat) : ∀ {z : ov_Z} {h : ov_H} (d : Nat) (hd : (10 + 5 * k + 0) ≤ d) (U : ov_cap u) (I : ov_N F z h) (x : Int) (y : Int) (way : Int) (t : Int) (sn : Int) (g_x : ov_g x) (g_y : ov_g y) (g_way : ov_g way) (g_t : ov_g t) (g_sn : ov_g sn) (p0 : 0 ≤ x ∧ x ≤ 5 ∧ 0 ≤ y ∧ y ≤ 8) (p1 : x < (h 96 0) ∧ y < (h 96 1)) (p2 : 0 ≤ way ∧ way ≤ 1) (p3 : x + y + (k : Int) = 13) (p4 : 0 ≤ t ∧ t < (h 96 9)) (p5 : 0 ≤ sn ∧ sn ≤ 3000) (p6 : ((way = 0 → x < (h 96 0) - 1) ∧ (¬ way = 0 → y < (h 96 1) - 1)) ∧ (((h 96 (10 + 4 * (6 * y + x))) = 1 ∨ (h 96 (10 + 4 * (6 * y + x))) = 2) → (way = 0 → 0 < (h 96 (10 + 4 * (6 * y + x) + 3))) ∧ (¬ way = 0 → (h 96 (10 + 4 * (6 * y + x) + 3)) < (h 96 (10 + 4 * (6 * y + x) + 1))))) (p7 : (h 90 26) = go) (p8 : (h 90 29) = wt) (p9 : (h 90 30) = sf) (p10 : (h 90 25) = sm) (p11 : 0 ≤ go ∧ go ≤ 3 + (h 96 8)) (W : ov_WT (h 96)) (CD : ov_CD (h 96) (h 97) (h 98)) (MI : ov_MI (h 96) (h 103) (h 97) (h 98) go wt sf sm (h 105) (h 106)), ov_T u d ov_m277 [ov_r 90, ov_i x, ov_i y, ov_i way, ov_i t, ov_i sn] z h (P_Mo_worthBy_90 F z h go wt sf sm x y way t sn) := fun {z} {h} => @c_Mo_worthBy_90 u F go wt sf sm k (fun k' _ => @c_Mo_worthFrom_90_all u F go wt sf sm k') z h
theorem c_Mo_wayOf_90_all {u : ov_U} {F : ov_H × ov_Z} (go : Int) (wt : Int) (sf : Int) (sm : Int) (k : Nat) : ∀ {z : ov_Z} {h : ov_H} (d : Nat) (hd : (10 + 5 * k + 1) ≤ d) (U : ov_cap u) (I : ov_N F z h) (x : Int) (y : Int) (t : Int) (sn : Int) (g_x : ov_g x) (g_y : ov_g y) (g_t : ov_g t) (g_sn : ov_g sn) (p0 : 0 ≤ x ∧ x ≤ 5 ∧ 0 ≤ y ∧ y ≤ 8) (p1 : x < (h 96 0) ∧ y < (h 96 1)) (p2 : x + y + (k : Int) = 13) (p3 : 0 ≤ t ∧ t < (h 96 9)) (p4 : 0 ≤ sn ∧ sn ≤ 3000) (p5 : (h 90 26) = go) (p6 : (h 90 29) = wt) (p7 : (h 90 30) = sf) (p8 : (h 90 25) = sm) (p9 : 0 ≤ go ∧ go ≤ 3 + (h 96 8)) (W : ov_WT (h 96)) (CD : ov_CD (h 96) (h 97) (h 98)) (MI : ov_MI (h 96) (h 103) (h 97) (h 98) go wt sf sm (h 105) (h 106)), ov_T u d ov_m276 [ov_r 90, ov_i x, ov_i y, ov_i t, ov_i sn] z h (P_Mo_wayOf_90 F z h go wt sf sm x y t sn) := fun {z} {h} => @c_Mo_wayOf_90 u F go wt sf sm k (fun k' _ => @c_Mo_worthFrom_90_all u F go wt sf sm k') z h

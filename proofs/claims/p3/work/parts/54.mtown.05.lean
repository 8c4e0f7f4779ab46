abbrev P_Mo_readLine_90 (F : ov_H × ov_Z) (z : ov_Z) (h : ov_H) (n : Int) : Option ov_V → ov_Z → ov_H → Prop := fun r0 z' h' => r0 = none ∧ ov_N F z' h' ∧ ((h' 90 2) = (h 90 2) ∧ (h' 90 20) = (h 90 20) ∧ (h' 90 22) = (h 90 22) ∧ (h' 90 25) = (h 90 25) ∧ (h' 90 26) = (h 90 26) ∧ (h' 90 28) = (h 90 28) ∧ (h' 90 29) = (h 90 29) ∧ (h' 90 30) = (h 90 30) ∧ (h' 90 34) = (h 90 34) ∧ (h 90 7) ≤ (h' 90 7) ∧ (h' 90 7) ≤ n ∧ (h 90 13) ≤ (h' 90 13) ∧ (h' 90 13) - (h 90 13) ≤ (h' 90 7) - (h 90 7) ∧ (h' 96 340) = (h 96 340) ∧ (h' 96 341) = (h 96 341) ∧ ((h' 90 8) = 0 → 1 ≤ (h 96 342) → 1 ≤ (h' 96 342)) ∧ (1 ≤ (h 96 349) → 1 ≤ (h' 96 349))) ∧ h' 92 = h 92 ∧ h' 93 = h 93 ∧ h' 94 = h 94 ∧ h' 95 = h 95 ∧ h' 100 = h 100 ∧ h' 103 = h 103 ∧ h' 105 = h 105 ∧ h' 106 = h 106 ∧ h' 109 = h 109 ∧ h' 114 = h 114 ∧ (ov_MK (h 96) (h 97) (h 98) (h' 96) (h' 97) (h' 98)) ∧ (ov_WS (h 96) → ov_WS (h' 96)) ∧ ((h' 90 8) = 0 → ov_CS (h 96) (h 97) (h 98) (h 90 13) → ov_CS (h' 96) (h' 97) (h' 98) (h' 90 13))
set_option maxHeartbeats 4000000 in
theorem c_Mo_readLine_90 {u : ov_U} {F : ov_H × ov_Z} (n : Int) {z : ov_Z} {h : ov_H} (d : Nat) (hd : 52 ≤ d) (U : ov_cap u) (I : ov_N F z h) (p0 : 0 ≤ n ∧ n ≤ 1000 ∧ (h 92 (n)) = 0 ∧ (h 90 7) ≤ n) (p1 : (h 90 13) ≤ (h 90 7)) (p2 : (h 90 8) = 0) (p3 : (h 90 7) < n) : ov_T u d ov_m218 [ov_r 90] z h (P_Mo_readLine_90 F z h n) := by
  refine ov_en rfl (Nat.le_of_ble_eq_true rfl) ?_
  show ov_R u d ov_m218 0 [(0, ov_r 90)] [] z h (P_Mo_readLine_90 F z h n)
  refine ov_blk (ls2 := [(0, ov_r 90)]) (st2 := [ov_i 1, ov_r 90]) (pc2 := 2) b_218_0_2 rfl rfl ?_
  refine ov_cV (as := [ov_i 1]) (st := []) (d2 := d - 1) d_218_2 lk_Mo_189 rfl (Nat.le_of_ble_eq_true rfl) (c := 1) (zb_90 I) (zs_90 I) ⟨by decide, rfl⟩ (by omega) (c_Mo_isWord_90 n (d - 1) (by omega) U I 1 (by omega) (by show 0 ≤ n ∧ n ≤ 1000 ∧ (h 92 (n)) = 0 ∧ (h 90 7) ≤ n; omega) (by omega)) ?_
  rintro _ _ _ ⟨v2, rfl, rfl, rfl, f1⟩
  show ov_R u d ov_m218 5 [(0, ov_r 90)] [ov_i v2] z h (P_Mo_readLine_90 F z h n)
  have f3 : (v2 = 0 ∨ v2 = 1) ∧ (v2 = 1 → (h 90 7) < n) ∧ (v2 = 1 → (h 90 8) = 0 ∧ (h 92 ((h 90 7))) = 1 ∧ (h 94 ((h 90 7))) = (h 95 ((1 : Int)))) ∧ (v2 = 0 → ¬ ((h 90 8) = 0 ∧ (h 92 ((h 90 7))) = 1 ∧ (h 94 ((h 90 7))) = (h 95 ((1 : Int))))) := f1
  clear f1
  refine ov_ifeq (tgt := 15) d_218_5 (by decide) (by omega) (fun c4 => ?_) (fun c4 => ?_)
  · skip
    have f3_ : v2 = 0 := by omega
    have f5 : ¬ ((h 90 8) = 0 ∧ (h 92 ((h 90 7))) = 1 ∧ (h 94 ((h 90 7))) = (h 95 ((1 : Int)))) := f3.2.2.2 (by omega)
    clear f3
    refine ov_blk (ls2 := [(0, ov_r 90)]) (st2 := [ov_i 2, ov_r 90]) (pc2 := 17) b_218_15_2 rfl rfl ?_
    refine ov_cV (as := [ov_i 2]) (st := []) (d2 := d - 1) d_218_17 lk_Mo_189 rfl (Nat.le_of_ble_eq_true rfl) (c := 1) (zb_90 I) (zs_90 I) ⟨by decide, rfl⟩ (by omega) (c_Mo_isWord_90 n (d - 1) (by omega) U I 2 (by omega) (by show 0 ≤ n ∧ n ≤ 1000 ∧ (h 92 (n)) = 0 ∧ (h 90 7) ≤ n; omega) (by omega)) ?_
    rintro _ _ _ ⟨v7, rfl, rfl, rfl, f6⟩
    show ov_R u d ov_m218 20 [(0, ov_r 90)] [ov_i v7] z h (P_Mo_readLine_90 F z h n)
    have f8 : (v7 = 0 ∨ v7 = 1) ∧ (v7 = 1 → (h 90 7) < n) ∧ (v7 = 1 → (h 90 8) = 0 ∧ (h 92 ((h 90 7))) = 1 ∧ (h 94 ((h 90 7))) = (h 95 ((2 : Int)))) ∧ (v7 = 0 → ¬ ((h 90 8) = 0 ∧ (h 92 ((h 90 7))) = 1 ∧ (h 94 ((h 90 7))) = (h 95 ((2 : Int))))) := f6
    clear f6
    refine ov_ifeq (tgt := 30) d_218_20 (by decide) (by omega) (fun c9 => ?_) (fun c9 => ?_)
    · skip
      have f8_ : v7 = 0 := by omega
      have f10 : ¬ ((h 90 8) = 0 ∧ (h 92 ((h 90 7))) = 1 ∧ (h 94 ((h 90 7))) = (h 95 ((2 : Int)))) := f8.2.2.2 (by omega)
      clear f8
      refine ov_blk (ls2 := [(0, ov_r 90)]) (st2 := [ov_i 3, ov_r 90]) (pc2 := 32) b_218_30_2 rfl rfl ?_
      refine ov_cV (as := [ov_i 3]) (st := []) (d2 := d - 1) d_218_32 lk_Mo_189 rfl (Nat.le_of_ble_eq_true rfl) (c := 1) (zb_90 I) (zs_90 I) ⟨by decide, rfl⟩ (by omega) (c_Mo_isWord_90 n (d - 1) (by omega) U I 3 (by omega) (by show 0 ≤ n ∧ n ≤ 1000 ∧ (h 92 (n)) = 0 ∧ (h 90 7) ≤ n; omega) (by omega)) ?_
      rintro _ _ _ ⟨v12, rfl, rfl, rfl, f11⟩
      show ov_R u d ov_m218 35 [(0, ov_r 90)] [ov_i v12] z h (P_Mo_readLine_90 F z h n)
      have f13 : (v12 = 0 ∨ v12 = 1) ∧ (v12 = 1 → (h 90 7) < n) ∧ (v12 = 1 → (h 90 8) = 0 ∧ (h 92 ((h 90 7))) = 1 ∧ (h 94 ((h 90 7))) = (h 95 ((3 : Int)))) ∧ (v12 = 0 → ¬ ((h 90 8) = 0 ∧ (h 92 ((h 90 7))) = 1 ∧ (h 94 ((h 90 7))) = (h 95 ((3 : Int))))) := f11
      clear f11
      refine ov_ifeq (tgt := 45) d_218_35 (by decide) (by omega) (fun c14 => ?_) (fun c14 => ?_)
      · skip
        have f13_ : v12 = 0 := by omega
        have f15 : ¬ ((h 90 8) = 0 ∧ (h 92 ((h 90 7))) = 1 ∧ (h 94 ((h 90 7))) = (h 95 ((3 : Int)))) := f13.2.2.2 (by omega)
        clear f13
        refine ov_blk (ls2 := [(0, ov_r 90)]) (st2 := [ov_r 90]) (pc2 := 46) b_218_45_1 rfl rfl ?_
        refine ov_cV (as := []) (st := []) (d2 := d - 1) d_218_46 lk_Mo_229 rfl (Nat.le_of_ble_eq_true rfl) (c := 1) (zb_90 I) (zs_90 I) ⟨by decide, rfl⟩ (by omega) (c_Mo_readOnce_90 n (d - 1) (by omega) U I (by show 0 ≤ n ∧ n ≤ 1000 ∧ (h 92 (n)) = 0 ∧ (h 90 7) ≤ n; omega) (by show (h 90 13) ≤ (h 90 7); omega) (by show (h 90 8) = 0; omega) (by show (h 90 7) < n; omega)) ?_
        rintro _ z33 h34 ⟨rfl, I35, f16, e17, e18, e19, e20, e21, e22, e23, e24, e25, e26, e27, e28, e29, y30, y31, y32⟩
        have E36 : h34 92 = h 92 := e17
        have E37 : h34 93 = h 93 := e18
        have E38 : h34 94 = h 94 := e19
        have E39 : h34 95 = h 95 := e20
        have E40 : h34 97 = h 97 := e21
        have E41 : h34 98 = h 98 := e22
        have E42 : h34 99 = h 99 := e23
        have E43 : h34 100 = h 100 := e24
        have E44 : h34 103 = h 103 := e25
        have E45 : h34 105 = h 105 := e26
        have E46 : h34 106 = h 106 := e27
        have E47 : h34 109 = h 109 := e28
        have E48 : h34 114 = h 114 := e29
        show ov_R u d ov_m218 49 [(0, ov_r 90)] [] z33 h34 (P_Mo_readLine_90 F z h n)
        have f49 : (h34 90 2) = (h 90 2) ∧ (h34 90 13) = (h 90 13) ∧ (h34 90 20) = (h 90 20) ∧ (h34 90 22) = (h 90 22) ∧ (h34 90 25) = (h 90 25) ∧ (h34 90 26) = (h 90 26) ∧ (h34 90 28) = (h 90 28) ∧ (h34 90 29) = (h 90 29) ∧ (h34 90 30) = (h 90 30) ∧ (h34 90 34) = (h 90 34) ∧ (h 90 7) ≤ (h34 90 7) ∧ (h34 90 7) ≤ n ∧ (h 90 13) ≤ (h34 90 13) ∧ (h34 90 13) - (h 90 13) ≤ (h34 90 7) - (h 90 7) ∧ (h34 96 340) = (h 96 340) ∧ (h34 96 341) = (h 96 341) ∧ ((h34 90 8) = 0 → 1 ≤ (h 96 342) → 1 ≤ (h34 96 342)) ∧ (1 ≤ (h 96 349) → 1 ≤ (h34 96 349)) := f16
        clear f16
        rw [E40] at y30
        rw [E41] at y30
        have y30_ : ov_MK (h 96) (h 97) (h 98) (h34 96) (h 97) (h 98) := y30
        have y31_ : ov_WS (h 96) → ov_WS (h34 96) := y31
        rw [E40] at y32
        rw [E41] at y32
        have y32_ : (h34 90 8) = 0 → ov_CS (h 96) (h 97) (h 98) (h 90 13) → ov_CS (h34 96) (h 97) (h 98) (h34 90 13) := y32
        exact ov_retv (st := []) d_218_49 rfl ⟨rfl, I35, (by show (h34 90 2) = (h 90 2) ∧ (h34 90 20) = (h 90 20) ∧ (h34 90 22) = (h 90 22) ∧ (h34 90 25) = (h 90 25) ∧ (h34 90 26) = (h 90 26) ∧ (h34 90 28) = (h 90 28) ∧ (h34 90 29) = (h 90 29) ∧ (h34 90 30) = (h 90 30) ∧ (h34 90 34) = (h 90 34) ∧ (h 90 7) ≤ (h34 90 7) ∧ (h34 90 7) ≤ n ∧ (h 90 13) ≤ (h34 90 13) ∧ (h34 90 13) - (h 90 13) ≤ (h34 90 7) - (h 90 7) ∧ (h34 96 340) = (h 96 340) ∧ (h34 96 341) = (h 96 341) ∧ ((h34 90 8) = 0 → 1 ≤ (h 96 342) → 1 ≤ (h34 96 342)) ∧ (1 ≤ (h 96 349) → 1 ≤ (h34 96 349)); omega), E36, E37, E38, E39, E43, E44, E45, E46, E47, E48, (by show ov_MK (h 96) (h 97) (h 98) (h34 96) (h34 97) (h34 98); rw [show h34 97 = h 97 from E40, show h34 98 = h 98 from E41]; exact y30_), (by show ov_WS (h 96) → ov_WS (h34 96); exact y31_), (by show (h34 90 8) = 0 → ov_CS (h 96) (h 97) (h 98) (h 90 13) → ov_CS (h34 96) (h34 97) (h34 98) (h34 90 13); rw [show h34 97 = h 97 from E40, show h34 98 = h 98 from E41]; exact y32_)⟩
      · skip
        have f13_ : v12 = 1 := by omega
        have f50 : (h 90 7) < n := f13.2.1 (by omega)
        have f51 : (h 90 8) = 0 ∧ (h 92 ((h 90 7))) = 1 ∧ (h 94 ((h 90 7))) = (h 95 ((3 : Int))) := f13.2.2.1 (by omega)
        clear f13
        refine ov_blk (ls2 := [(0, ov_r 90)]) (st2 := [ov_r 90]) (pc2 := 39) b_218_38_1 rfl rfl ?_
        refine ov_cV (as := []) (st := []) (d2 := d - 1) d_218_39 lk_Mo_226 rfl (Nat.le_of_ble_eq_true rfl) (c := 1) (zb_90 I) (zs_90 I) ⟨by decide, rfl⟩ (by omega) (c_Mo_readRule_90 n (d - 1) (by omega) U I (by show 0 ≤ n ∧ n ≤ 1000 ∧ (h 92 (n)) = 0 ∧ (h 90 7) ≤ n; omega) (by show (h 90 13) ≤ (h 90 7); omega) (by show (h 90 8) = 0; omega) (by show (h 90 7) < n; omega)) ?_
        rintro _ z66 h67 ⟨rfl, I68, f52, e53, e54, e55, e56, e57, e58, e59, e60, e61, e62, y63, y64, y65⟩
        have E69 : h67 92 = h 92 := e53
        have E70 : h67 93 = h 93 := e54
        have E71 : h67 94 = h 94 := e55
        have E72 : h67 95 = h 95 := e56
        have E73 : h67 100 = h 100 := e57
        have E74 : h67 103 = h 103 := e58
        have E75 : h67 105 = h 105 := e59
        have E76 : h67 106 = h 106 := e60
        have E77 : h67 109 = h 109 := e61
        have E78 : h67 114 = h 114 := e62
        show ov_R u d ov_m218 42 [(0, ov_r 90)] [] z66 h67 (P_Mo_readLine_90 F z h n)
        have f79 : (h67 90 2) = (h 90 2) ∧ (h67 90 20) = (h 90 20) ∧ (h67 90 22) = (h 90 22) ∧ (h67 90 25) = (h 90 25) ∧ (h67 90 26) = (h 90 26) ∧ (h67 90 28) = (h 90 28) ∧ (h67 90 29) = (h 90 29) ∧ (h67 90 30) = (h 90 30) ∧ (h67 90 34) = (h 90 34) ∧ (h 90 7) ≤ (h67 90 7) ∧ (h67 90 7) ≤ n ∧ (h 90 13) ≤ (h67 90 13) ∧ (h67 90 13) - (h 90 13) ≤ (h67 90 7) - (h 90 7) ∧ (h67 96 340) = (h 96 340) ∧ (h67 96 341) = (h 96 341) ∧ ((h67 90 8) = 0 → 1 ≤ (h 96 342) → 1 ≤ (h67 96 342)) ∧ (1 ≤ (h 96 349) → 1 ≤ (h67 96 349)) := f52
        clear f52
        have y63_ : ov_MK (h 96) (h 97) (h 98) (h67 96) (h67 97) (h67 98) := y63
        have y64_ : ov_WS (h 96) → ov_WS (h67 96) := y64
        have y65_ : (h67 90 8) = 0 → ov_CS (h 96) (h 97) (h 98) (h 90 13) → ov_CS (h67 96) (h67 97) (h67 98) (h67 90 13) := y65
        refine ov_goto (tgt := 49) d_218_42 (by decide) ?_
        exact ov_retv (st := []) d_218_49 rfl ⟨rfl, I68, (by show (h67 90 2) = (h 90 2) ∧ (h67 90 20) = (h 90 20) ∧ (h67 90 22) = (h 90 22) ∧ (h67 90 25) = (h 90 25) ∧ (h67 90 26) = (h 90 26) ∧ (h67 90 28) = (h 90 28) ∧ (h67 90 29) = (h 90 29) ∧ (h67 90 30) = (h 90 30) ∧ (h67 90 34) = (h 90 34) ∧ (h 90 7) ≤ (h67 90 7) ∧ (h67 90 7) ≤ n ∧ (h 90 13) ≤ (h67 90 13) ∧ (h67 90 13) - (h 90 13) ≤ (h67 90 7) - (h 90 7) ∧ (h67 96 340) = (h 96 340) ∧ (h67 96 341) = (h 96 341) ∧ ((h67 90 8) = 0 → 1 ≤ (h 96 342) → 1 ≤ (h67 96 342)) ∧ (1 ≤ (h 96 349) → 1 ≤ (h67 96 349)); omega), E69, E70, E71, E72, E73, E74, E75, E76, E77, E78, (by show ov_MK (h 96) (h 97) (h 98) (h67 96) (h67 97) (h67 98); exact y63_), (by show ov_WS (h 96) → ov_WS (h67 96); exact y64_), (by show (h67 90 8) = 0 → ov_CS (h 96) (h 97) (h 98) (h 90 13) → ov_CS (h67 96) (h67 97) (h67 98) (h67 90 13); exact y65_)⟩
    · skip
      have f8_ : v7 = 1 := by omega
      have f80 : (h 90 7) < n := f8.2.1 (by omega)
      have f81 : (h 90 8) = 0 ∧ (h 92 ((h 90 7))) = 1 ∧ (h 94 ((h 90 7))) = (h 95 ((2 : Int))) := f8.2.2.1 (by omega)
      clear f8
      refine ov_blk (ls2 := [(0, ov_r 90)]) (st2 := [ov_r 90]) (pc2 := 24) b_218_23_1 rfl rfl ?_
      refine ov_cV (as := []) (st := []) (d2 := d - 1) d_218_24 lk_Mo_223 rfl (Nat.le_of_ble_eq_true rfl) (c := 1) (zb_90 I) (zs_90 I) ⟨by decide, rfl⟩ (by omega) (c_Mo_readBar_90 n (d - 1) (by omega) U I (by show 0 ≤ n ∧ n ≤ 1000 ∧ (h 92 (n)) = 0 ∧ (h 90 7) ≤ n; omega) (by show (h 90 13) ≤ (h 90 7); omega) (by show (h 90 8) = 0; omega) (by show (h 90 7) < n; omega)) ?_
      rintro _ z99 h100 ⟨rfl, I101, f82, e83, e84, e85, e86, e87, e88, e89, e90, e91, e92, e93, e94, e95, y96, y97, y98⟩
      have E102 : h100 92 = h 92 := e83
      have E103 : h100 93 = h 93 := e84
      have E104 : h100 94 = h 94 := e85
      have E105 : h100 95 = h 95 := e86
      have E106 : h100 97 = h 97 := e87
      have E107 : h100 98 = h 98 := e88
      have E108 : h100 99 = h 99 := e89
      have E109 : h100 100 = h 100 := e90
      have E110 : h100 103 = h 103 := e91
      have E111 : h100 105 = h 105 := e92
      have E112 : h100 106 = h 106 := e93
      have E113 : h100 109 = h 109 := e94
      have E114 : h100 114 = h 114 := e95
      show ov_R u d ov_m218 27 [(0, ov_r 90)] [] z99 h100 (P_Mo_readLine_90 F z h n)
      have f115 : (h100 90 2) = (h 90 2) ∧ (h100 90 13) = (h 90 13) ∧ (h100 90 20) = (h 90 20) ∧ (h100 90 22) = (h 90 22) ∧ (h100 90 25) = (h 90 25) ∧ (h100 90 26) = (h 90 26) ∧ (h100 90 28) = (h 90 28) ∧ (h100 90 29) = (h 90 29) ∧ (h100 90 30) = (h 90 30) ∧ (h100 90 34) = (h 90 34) ∧ (h 90 7) ≤ (h100 90 7) ∧ (h100 90 7) ≤ n ∧ (h 90 13) ≤ (h100 90 13) ∧ (h100 90 13) - (h 90 13) ≤ (h100 90 7) - (h 90 7) ∧ (h100 96 340) = (h 96 340) ∧ (h100 96 341) = (h 96 341) ∧ ((h100 90 8) = 0 → 1 ≤ (h 96 342) → 1 ≤ (h100 96 342)) ∧ (1 ≤ (h 96 349) → 1 ≤ (h100 96 349)) := f82
      clear f82
      rw [E106] at y96
      rw [E107] at y96
      have y96_ : ov_MK (h 96) (h 97) (h 98) (h100 96) (h 97) (h 98) := y96
      have y97_ : ov_WS (h 96) → ov_WS (h100 96) := y97
      rw [E106] at y98
      rw [E107] at y98
      have y98_ : (h100 90 8) = 0 → ov_CS (h 96) (h 97) (h 98) (h 90 13) → ov_CS (h100 96) (h 97) (h 98) (h100 90 13) := y98
      refine ov_goto (tgt := 49) d_218_27 (by decide) ?_
      exact ov_retv (st := []) d_218_49 rfl ⟨rfl, I101, (by show (h100 90 2) = (h 90 2) ∧ (h100 90 20) = (h 90 20) ∧ (h100 90 22) = (h 90 22) ∧ (h100 90 25) = (h 90 25) ∧ (h100 90 26) = (h 90 26) ∧ (h100 90 28) = (h 90 28) ∧ (h100 90 29) = (h 90 29) ∧ (h100 90 30) = (h 90 30) ∧ (h100 90 34) = (h 90 34) ∧ (h 90 7) ≤ (h100 90 7) ∧ (h100 90 7) ≤ n ∧ (h 90 13) ≤ (h100 90 13) ∧ (h100 90 13) - (h 90 13) ≤ (h100 90 7) - (h 90 7) ∧ (h100 96 340) = (h 96 340) ∧ (h100 96 341) = (h 96 341) ∧ ((h100 90 8) = 0 → 1 ≤ (h 96 342) → 1 ≤ (h100 96 342)) ∧ (1 ≤ (h 96 349) → 1 ≤ (h100 96 349)); omega), E102, E103, E104, E105, E109, E110, E111, E112, E113, E114, (by show ov_MK (h 96) (h 97) (h 98) (h100 96) (h100 97) (h100 98); rw [show h100 97 = h 97 from E106, show h100 98 = h 98 from E107]; exact y96_), (by show ov_WS (h 96) → ov_WS (h100 96); exact y97_), (by show (h100 90 8) = 0 → ov_CS (h 96) (h 97) (h 98) (h 90 13) → ov_CS (h100 96) (h100 97) (h100 98) (h100 90 13); rw [show h100 97 = h 97 from E106, show h100 98 = h 98 from E107]; exact y98_)⟩
  · skip
    have f3_ : v2 = 1 := by omega
    have f116 : (h 90 7) < n := f3.2.1 (by omega)
    have f117 : (h 90 8) = 0 ∧ (h 92 ((h 90 7))) = 1 ∧ (h 94 ((h 90 7))) = (h 95 ((1 : Int))) := f3.2.2.1 (by omega)
    clear f3
    refine ov_blk (ls2 := [(0, ov_r 90)]) (st2 := [ov_r 90]) (pc2 := 9) b_218_8_1 rfl rfl ?_
    refine ov_cV (as := []) (st := []) (d2 := d - 1) d_218_9 lk_Mo_220 rfl (Nat.le_of_ble_eq_true rfl) (c := 1) (zb_90 I) (zs_90 I) ⟨by decide, rfl⟩ (by omega) (c_Mo_readLight_90 n (d - 1) (by omega) U I (by show 0 ≤ n ∧ n ≤ 1000 ∧ (h 92 (n)) = 0 ∧ (h 90 7) ≤ n; omega) (by show (h 90 13) ≤ (h 90 7); omega) (by show (h 90 8) = 0; omega) (by show (h 90 7) < n; omega)) ?_
    rintro _ z135 h136 ⟨rfl, I137, f118, e119, e120, e121, e122, e123, e124, e125, e126, e127, e128, e129, e130, e131, y132, y133, y134⟩
    have E138 : h136 92 = h 92 := e119
    have E139 : h136 93 = h 93 := e120
    have E140 : h136 94 = h 94 := e121
    have E141 : h136 95 = h 95 := e122
    have E142 : h136 97 = h 97 := e123
    have E143 : h136 98 = h 98 := e124
    have E144 : h136 99 = h 99 := e125
    have E145 : h136 100 = h 100 := e126
    have E146 : h136 103 = h 103 := e127
    have E147 : h136 105 = h 105 := e128
    have E148 : h136 106 = h 106 := e129
    have E149 : h136 109 = h 109 := e130
    have E150 : h136 114 = h 114 := e131
    show ov_R u d ov_m218 12 [(0, ov_r 90)] [] z135 h136 (P_Mo_readLine_90 F z h n)
    have f151 : (h136 90 2) = (h 90 2) ∧ (h136 90 13) = (h 90 13) ∧ (h136 90 20) = (h 90 20) ∧ (h136 90 22) = (h 90 22) ∧ (h136 90 25) = (h 90 25) ∧ (h136 90 26) = (h 90 26) ∧ (h136 90 28) = (h 90 28) ∧ (h136 90 29) = (h 90 29) ∧ (h136 90 30) = (h 90 30) ∧ (h136 90 34) = (h 90 34) ∧ (h 90 7) ≤ (h136 90 7) ∧ (h136 90 7) ≤ n ∧ (h 90 13) ≤ (h136 90 13) ∧ (h136 90 13) - (h 90 13) ≤ (h136 90 7) - (h 90 7) ∧ (h136 96 340) = (h 96 340) ∧ (h136 96 341) = (h 96 341) ∧ ((h136 90 8) = 0 → 1 ≤ (h 96 342) → 1 ≤ (h136 96 342)) ∧ (1 ≤ (h 96 349) → 1 ≤ (h136 96 349)) := f118
    clear f118
    rw [E142] at y132
    rw [E143] at y132
    have y132_ : ov_MK (h 96) (h 97) (h 98) (h136 96) (h 97) (h 98) := y132
    have y133_ : ov_WS (h 96) → ov_WS (h136 96) := y133
    rw [E142] at y134
    rw [E143] at y134
    have y134_ : (h136 90 8) = 0 → ov_CS (h 96) (h 97) (h 98) (h 90 13) → ov_CS (h136 96) (h 97) (h 98) (h136 90 13) := y134
    refine ov_goto (tgt := 49) d_218_12 (by decide) ?_
    exact ov_retv (st := []) d_218_49 rfl ⟨rfl, I137, (by show (h136 90 2) = (h 90 2) ∧ (h136 90 20) = (h 90 20) ∧ (h136 90 22) = (h 90 22) ∧ (h136 90 25) = (h 90 25) ∧ (h136 90 26) = (h 90 26) ∧ (h136 90 28) = (h 90 28) ∧ (h136 90 29) = (h 90 29) ∧ (h136 90 30) = (h 90 30) ∧ (h136 90 34) = (h 90 34) ∧ (h 90 7) ≤ (h136 90 7) ∧ (h136 90 7) ≤ n ∧ (h 90 13) ≤ (h136 90 13) ∧ (h136 90 13) - (h 90 13) ≤ (h136 90 7) - (h 90 7) ∧ (h136 96 340) = (h 96 340) ∧ (h136 96 341) = (h 96 341) ∧ ((h136 90 8) = 0 → 1 ≤ (h 96 342) → 1 ≤ (h136 96 342)) ∧ (1 ≤ (h 96 349) → 1 ≤ (h136 96 349)); omega), E138, E139, E140, E141, E145, E146, E147, E148, E149, E150, (by show ov_MK (h 96) (h 97) (h 98) (h136 96) (h136 97) (h136 98); rw [show h136 97 = h 97 from E142, show h136 98 = h 98 from E143]; exact y132_), (by show ov_WS (h 96) → ov_WS (h136 96); exact y133_), (by show (h136 90 8) = 0 → ov_CS (h 96) (h 97) (h 98) (h 90 13) → ov_CS (h136 96) (h136 97) (h136 98) (h136 90 13); rw [show h136 97 = h 97 from E142, show h136 98 = h 98 from E143]; exact y134_)⟩
abbrev P_Mo_standsAsAlways_90 (F : ov_H × ov_Z) (z : ov_Z) (h : ov_H) (a : Int) : Option ov_V → ov_Z → ov_H → Prop := fun r0 z' h' => r0 = none ∧ ov_N F z' h' ∧ ((h' 90 2) = (h 90 2) ∧ (h' 90 7) = (h 90 7) ∧ (h' 90 8) = (h 90 8) ∧ (h' 90 13) = (h 90 13) ∧ (h' 90 20) = (h 90 20) ∧ (h' 90 22) = (h 90 22) ∧ (h' 90 25) = (h 90 25) ∧ (h' 90 26) = (h 90 26) ∧ (h' 90 28) = (h 90 28) ∧ (h' 90 29) = (h 90 29) ∧ (h' 90 30) = (h 90 30) ∧ (h' 90 34) = (h 90 34) ∧ (h' 96 348) = 0 ∧ (h' 96 342) = 10 ∧ (h' 96 349) = 1) ∧ h' 92 = h 92 ∧ h' 93 = h 93 ∧ h' 94 = h 94 ∧ h' 95 = h 95 ∧ h' 97 = h 97 ∧ h' 98 = h 98 ∧ h' 99 = h 99 ∧ h' 100 = h 100 ∧ h' 103 = h 103 ∧ h' 105 = h 105 ∧ h' 106 = h 106 ∧ h' 109 = h 109 ∧ h' 114 = h 114 ∧ (∀ j : Int, j < 340 → (h' 96) j = (h 96) j) ∧ (ov_WS (h' 96))
set_option maxHeartbeats 4000000 in
theorem c_Mo_standsAsAlways_90 {u : ov_U} {F : ov_H × ov_Z} {z : ov_Z} {h : ov_H} (d : Nat) (hd : 0 ≤ d) (U : ov_cap u) (I : ov_N F z h) (a : Int) (g_a : ov_g a) (p0 : a = 340) : ov_T u d ov_m203 [ov_r 90, ov_i a] z h (P_Mo_standsAsAlways_90 F z h a) := by
  refine ov_en rfl (Nat.le_of_ble_eq_true rfl) ?_
  show ov_R u d ov_m203 0 [(0, ov_r 90), (1, ov_i a)] [] z h (P_Mo_standsAsAlways_90 F z h a)
  refine ov_blk (ls2 := [(0, ov_r 90), (1, ov_i a), (2, ov_i 0)]) (st2 := []) (pc2 := 2) b_203_0_2 rfl rfl ?_
  have L4 : ∀ (n1 : Nat) (x2 : Int) (z5 : ov_Z) (h6 : ov_H) (I7 : ov_N F z5 h6) (E8 : h6 92 = h 92) (E9 : h6 93 = h 93) (E10 : h6 94 = h 94) (E11 : h6 95 = h 95) (E12 : h6 97 = h 97) (E13 : h6 98 = h 98) (E14 : h6 99 = h 99) (E15 : h6 100 = h 100) (E16 : h6 103 = h 103) (E17 : h6 105 = h 105) (E18 : h6 106 = h 106) (E19 : h6 109 = h 109) (E20 : h6 114 = h 114) (xz : ∀ j : Int, j < 340 → (h6 96) j = (h 96) j) (xy : ∀ j : Int, 340 ≤ j → j < 340 + x2 → (h6 96) j = 0) (q3 : 0 ≤ x2 ∧ x2 ≤ 340 ∧ (h6 90 2) = (h 90 2) ∧ (h6 90 7) = (h 90 7) ∧ (h6 90 8) = (h 90 8) ∧ (h6 90 13) = (h 90 13) ∧ (h6 90 20) = (h 90 20) ∧ (h6 90 22) = (h 90 22) ∧ (h6 90 25) = (h 90 25) ∧ (h6 90 26) = (h 90 26) ∧ (h6 90 28) = (h 90 28) ∧ (h6 90 29) = (h 90 29) ∧ (h6 90 30) = (h 90 30) ∧ (h6 90 34) = (h 90 34)), 340 - x2 < (n1 : Int) → ov_R u d ov_m203 2 [(0, ov_r 90), (1, ov_i a), (2, ov_i x2)] [] z5 h6 (P_Mo_standsAsAlways_90 F z h a) := by
    intro n1
    induction n1 with
    | zero =>
      intro x2 z5 h6 I7 E8 E9 E10 E11 E12 E13 E14 E15 E16 E17 E18 E19 E20 xz xy q3 hn21
      exact absurd hn21 (by omega)
    | succ n1 ih2 =>
      intro x2 z5 h6 I7 E8 E9 E10 E11 E12 E13 E14 E15 E16 E17 E18 E19 E20 xz xy q3 hn21
      refine ov_blk (ls2 := [(0, ov_r 90), (1, ov_i a), (2, ov_i x2)]) (st2 := [ov_i 340, ov_i x2]) (pc2 := 6) b_203_2_2 rfl rfl ?_
      refine ov_icge (tgt := 24) d_203_6 (by decide) (by omega) (by omega) (fun c22 => ?_) (fun c22 => ?_)
      · skip
        refine ov_blk (ls2 := [(0, ov_r 90), (1, ov_i a), (2, ov_i x2)]) (st2 := [ov_r 90]) (pc2 := 25) b_203_24_1 rfl rfl ?_
        refine ov_getf (v := ov_r 96) d_203_25 fl_Mo_81 (zb_90 I7) (zs_90 I7) (congrArg ov_r (rg_90_10 I7)) ?_
        refine ov_blk (ls2 := [(0, ov_r 90), (1, ov_i a), (2, ov_i x2)]) (st2 := [ov_i 10, ov_i (a + 2), ov_r 96]) (pc2 := 33) b_203_28_4 rfl rfl ?_
        refine ov_iast d_203_33 (zb_96 I7) (zs_96 I7) (by omega) ?_
        have I23 := ua_96 (k := (a + 2)) (x := 10) I7 (by refine ⟨?_, ?_, ?_, ?_, ?_, ?_, ?_, ?_, ?_, ?_, ?_, ?_, ?_, ?_, ?_, ?_, ?_, ?_, ?_, ?_, ?_, ?_, ?_, ?_, ?_, ?_, ?_, ?_, ?_⟩ <;> omega)
        refine ov_blk (ls2 := [(0, ov_r 90), (1, ov_i a), (2, ov_i x2)]) (st2 := [ov_r 90]) (pc2 := 35) b_203_34_1 rfl rfl ?_
        refine ov_getf (v := ov_r 96) d_203_35 fl_Mo_81 (zb_90 I23) (zs_90 I23) (congrArg ov_r (rg_90_10 I23)) ?_
        refine ov_blk (ls2 := [(0, ov_r 90), (1, ov_i a), (2, ov_i x2)]) (st2 := [ov_i (-1), ov_i (a + 3), ov_r 96]) (pc2 := 42) b_203_38_4 rfl rfl ?_
        refine ov_iast d_203_42 (zb_96 I23) (zs_96 I23) (by omega) ?_
        have I24 := ua_96 (k := (a + 3)) (x := (-1)) I23 (by refine ⟨?_, ?_, ?_, ?_, ?_, ?_, ?_, ?_, ?_, ?_, ?_, ?_, ?_, ?_, ?_, ?_, ?_, ?_, ?_, ?_, ?_, ?_, ?_, ?_, ?_, ?_, ?_, ?_, ?_⟩ <;> omega)
        refine ov_blk (ls2 := [(0, ov_r 90), (1, ov_i a), (2, ov_i x2)]) (st2 := [ov_r 90]) (pc2 := 44) b_203_43_1 rfl rfl ?_
        refine ov_getf (v := ov_r 96) d_203_44 fl_Mo_81 (zb_90 I24) (zs_90 I24) (congrArg ov_r (rg_90_10 I24)) ?_
        refine ov_blk (ls2 := [(0, ov_r 90), (1, ov_i a), (2, ov_i x2)]) (st2 := [ov_i (-1), ov_i (a + 4), ov_r 96]) (pc2 := 51) b_203_47_4 rfl rfl ?_
        refine ov_iast d_203_51 (zb_96 I24) (zs_96 I24) (by omega) ?_
        have I25 := ua_96 (k := (a + 4)) (x := (-1)) I24 (by refine ⟨?_, ?_, ?_, ?_, ?_, ?_, ?_, ?_, ?_, ?_, ?_, ?_, ?_, ?_, ?_, ?_, ?_, ?_, ?_, ?_, ?_, ?_, ?_, ?_, ?_, ?_, ?_, ?_, ?_⟩ <;> omega)
        refine ov_blk (ls2 := [(0, ov_r 90), (1, ov_i a), (2, ov_i x2)]) (st2 := [ov_r 90]) (pc2 := 53) b_203_52_1 rfl rfl ?_
        refine ov_getf (v := ov_r 96) d_203_53 fl_Mo_81 (zb_90 I25) (zs_90 I25) (congrArg ov_r (rg_90_10 I25)) ?_
        refine ov_blk (ls2 := [(0, ov_r 90), (1, ov_i a), (2, ov_i x2)]) (st2 := [ov_i 1, ov_i (a + 9), ov_r 96]) (pc2 := 61) b_203_56_4 rfl rfl ?_
        refine ov_iast d_203_61 (zb_96 I25) (zs_96 I25) (by omega) ?_
        have I26 := ua_96 (k := (a + 9)) (x := 1) I25 (by refine ⟨?_, ?_, ?_, ?_, ?_, ?_, ?_, ?_, ?_, ?_, ?_, ?_, ?_, ?_, ?_, ?_, ?_, ?_, ?_, ?_, ?_, ?_, ?_, ?_, ?_, ?_, ?_, ?_, ?_⟩ <;> omega)
        have z348 := xy 348 (by decide) (by omega)
        have y348 : (ov_up (ov_up (ov_up (ov_up h6 96 (a + 2) 10) 96 (a + 3) (-1)) 96 (a + 4) (-1)) 96 (a + 9) 1) 96 348 = 0 := by rw [ov_up_j (by omega)]; rw [ov_up_j (by omega)]; rw [ov_up_j (by omega)]; rw [ov_up_j (by omega)]; exact z348
        have y342 : (ov_up (ov_up (ov_up (ov_up h6 96 (a + 2) 10) 96 (a + 3) (-1)) 96 (a + 4) (-1)) 96 (a + 9) 1) 96 342 = 10 := by rw [ov_up_j (by omega)]; rw [ov_up_j (by omega)]; rw [ov_up_j (by omega)]; rw [show (342 : Int) = a + 2 by omega, ov_up_row, ov_rs_eq]
        have y349 : (ov_up (ov_up (ov_up (ov_up h6 96 (a + 2) 10) 96 (a + 3) (-1)) 96 (a + 4) (-1)) 96 (a + 9) 1) 96 349 = 1 := by rw [show (349 : Int) = a + 9 by omega, ov_up_row, ov_rs_eq]
        exact ov_retv (st := []) d_203_62 rfl ⟨rfl, I26, (by show (h6 90 2) = (h 90 2) ∧ (h6 90 7) = (h 90 7) ∧ (h6 90 8) = (h 90 8) ∧ (h6 90 13) = (h 90 13) ∧ (h6 90 20) = (h 90 20) ∧ (h6 90 22) = (h 90 22) ∧ (h6 90 25) = (h 90 25) ∧ (h6 90 26) = (h 90 26) ∧ (h6 90 28) = (h 90 28) ∧ (h6 90 29) = (h 90 29) ∧ (h6 90 30) = (h 90 30) ∧ (h6 90 34) = (h 90 34) ∧ ((ov_up (ov_up (ov_up (ov_up h6 96 (a + 2) 10) 96 (a + 3) (-1)) 96 (a + 4) (-1)) 96 (a + 9) 1) 96 348) = 0 ∧ ((ov_up (ov_up (ov_up (ov_up h6 96 (a + 2) 10) 96 (a + 3) (-1)) 96 (a + 4) (-1)) 96 (a + 9) 1) 96 342) = 10 ∧ ((ov_up (ov_up (ov_up (ov_up h6 96 (a + 2) 10) 96 (a + 3) (-1)) 96 (a + 4) (-1)) 96 (a + 9) 1) 96 349) = 1; omega), E8, E9, E10, E11, E12, E13, E14, E15, E16, E17, E18, E19, E20, (fun j hj => by show (ov_up (ov_up (ov_up (ov_up h6 96 (a + 2) 10) 96 (a + 3) (-1)) 96 (a + 4) (-1)) 96 (a + 9) 1) 96 j = _; rw [ov_up_j (by omega)]; rw [ov_up_j (by omega)]; rw [ov_up_j (by omega)]; rw [ov_up_j (by omega)]; exact xz j hj), (fun c h0 h1 h2 => by exfalso; have q : (ov_up (ov_up (ov_up (ov_up h6 96 (a + 2) 10) 96 (a + 3) (-1)) 96 (a + 4) (-1)) 96 (a + 9) 1) 96 (350 + 4 * c) = 0 := (by rw [ov_up_j (by omega)]; rw [ov_up_j (by omega)]; rw [ov_up_j (by omega)]; rw [ov_up_j (by omega)]; exact xy _ (by omega) (by omega)); omega)⟩
      · skip
        refine ov_blk (ls2 := [(0, ov_r 90), (1, ov_i a), (2, ov_i x2)]) (st2 := [ov_r 90]) (pc2 := 10) b_203_9_1 rfl rfl ?_
        refine ov_getf (v := ov_r 96) d_203_10 fl_Mo_81 (zb_90 I7) (zs_90 I7) (congrArg ov_r (rg_90_10 I7)) ?_
        refine ov_blk (ls2 := [(0, ov_r 90), (1, ov_i a), (2, ov_i x2)]) (st2 := [ov_i 0, ov_i (a + x2), ov_r 96]) (pc2 := 17) b_203_13_4 rfl rfl ?_
        refine ov_iast d_203_17 (zb_96 I7) (zs_96 I7) (by omega) ?_
        have I27 := ua_96 (k := (a + x2)) (x := 0) I7 (by refine ⟨?_, ?_, ?_, ?_, ?_, ?_, ?_, ?_, ?_, ?_, ?_, ?_, ?_, ?_, ?_, ?_, ?_, ?_, ?_, ?_, ?_, ?_, ?_, ?_, ?_, ?_, ?_, ?_, ?_⟩ <;> omega)
        refine ov_blk (ls2 := [(0, ov_r 90), (1, ov_i a), (2, ov_i (x2 + 1))]) (st2 := []) (pc2 := 21) b_203_18_1 rfl rfl ?_
        refine ov_goto (tgt := 2) d_203_21 (by decide) ?_
        exact ih2 (x2 + 1) _ _ I27 E8 E9 E10 E11 E12 E13 E14 E15 E16 E17 E18 E19 E20 (fun j hj => by rw [ov_up_j (by omega)]; exact xz j hj) (fun j h1 h2 => if e : j = a + x2 then (by rw [e, ov_up_row, ov_rs_eq]) else (by rw [ov_up_j e]; exact xy j h1 (by omega))) (by show 0 ≤ (x2 + 1) ∧ (x2 + 1) ≤ 340 ∧ (h6 90 2) = (h 90 2) ∧ (h6 90 7) = (h 90 7) ∧ (h6 90 8) = (h 90 8) ∧ (h6 90 13) = (h 90 13) ∧ (h6 90 20) = (h 90 20) ∧ (h6 90 22) = (h 90 22) ∧ (h6 90 25) = (h 90 25) ∧ (h6 90 26) = (h 90 26) ∧ (h6 90 28) = (h 90 28) ∧ (h6 90 29) = (h 90 29) ∧ (h6 90 30) = (h 90 30) ∧ (h6 90 34) = (h 90 34); omega) (by omega)
  exact L4 341 0 _ _ I rfl rfl rfl rfl rfl rfl rfl rfl rfl rfl rfl rfl rfl (fun j _ => rfl) (fun j h1 h2 => by omega) (by show 0 ≤ 0 ∧ 0 ≤ 340 ∧ (h 90 2) = (h 90 2) ∧ (h 90 7) = (h 90 7) ∧ (h 90 8) = (h 90 8) ∧ (h 90 13) = (h 90 13) ∧ (h 90 20) = (h 90 20) ∧ (h 90 22) = (h 90 22) ∧ (h 90 25) = (h 90 25) ∧ (h 90 26) = (h 90 26) ∧ (h 90 28) = (h 90 28) ∧ (h 90 29) = (h 90 29) ∧ (h 90 30) = (h 90 30) ∧ (h 90 34) = (h 90 34); omega) (by omega)

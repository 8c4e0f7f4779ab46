abbrev P_Mo_readLine_90 (F : ov_H × ov_Z) (z : ov_Z) (h : ov_H) (n : Int) : Option ov_V → ov_Z → ov_H → Prop := fun r0 z' h' => r0 = none ∧ ov_N F z' h' ∧ ((h' 90 2) = (h 90 2) ∧ (h' 90 20) = (h 90 20) ∧ (h' 90 22) = (h 90 22) ∧ (h' 90 25) = (h 90 25) ∧ (h' 90 26) = (h 90 26) ∧ (h' 90 28) = (h 90 28) ∧ (h' 90 29) = (h 90 29) ∧ (h' 90 30) = (h 90 30) ∧ (h' 90 34) = (h 90 34) ∧ (h 90 7) ≤ (h' 90 7) ∧ (h' 90 7) ≤ n ∧ (h 90 13) ≤ (h' 90 13) ∧ (h' 90 13) - (h 90 13) ≤ (h' 90 7) - (h 90 7) ∧ (h' 96 340) = (h 96 340) ∧ (h' 96 341) = (h 96 341) ∧ ((h' 90 8) = 0 → 1 ≤ (h 96 342) → 1 ≤ (h' 96 342)) ∧ (1 ≤ (h 96 349) → 1 ≤ (h' 96 349))) ∧ h' 91 = h 91 ∧ h' 92 = h 92 ∧ h' 93 = h 93 ∧ h' 94 = h 94 ∧ h' 95 = h 95 ∧ h' 100 = h 100 ∧ h' 103 = h 103 ∧ h' 105 = h 105 ∧ h' 106 = h 106 ∧ h' 109 = h 109 ∧ h' 114 = h 114 ∧ (ov_MK (h 96) (h 97) (h 98) (h' 96) (h' 97) (h' 98)) ∧ (ov_WS (h 96) → ov_WS (h' 96)) ∧ ((h' 90 8) = 0 → ov_CS (h 96) (h 97) (h 98) (h 90 13) → ov_CS (h' 96) (h' 97) (h' 98) (h' 90 13))
set_option maxHeartbeats 4000000 in
theorem c_Mo_readLine_90 {u : ov_U} {F : ov_H × ov_Z} (n : Int) {z : ov_Z} {h : ov_H} (d : Nat) (hd : 52 ≤ d) (U : ov_cap u) (I : ov_N F z h) (p0 : 0 ≤ n ∧ n ≤ 1000 ∧ (h 92 (n)) = 0 ∧ (h 90 7) ≤ n) (p1 : (h 90 13) ≤ (h 90 7)) (p2 : (h 90 8) = 0) (p3 : (h 90 7) < n) : ov_T u d ov_m218 [ov_r 90] z h (P_Mo_readLine_90 F z h n) := by
  refine ov_en rfl (Nat.le_of_ble_eq_true rfl) ?_
  show ov_R u d ov_m218 0 [(0, ov_r 90)] [] z h (P_Mo_readLine_90 F z h n)
  refine ov_blk (ls2 := [(0, ov_r 90)]) (st2 := [ov_i 1, ov_r 90]) (pc2 := 2) b_218_0_2 rfl rfl ?_
  refine ov_cV (as := [ov_i 1]) (st := []) (d2 := d - 1) d_218_2 lk_Mo_189 rfl (Nat.le_of_ble_eq_true rfl) (c := 1) (zb_90 I) (zs_90 I) ⟨by decide, rfl⟩ (by omega) (c_Mo_isWord_90 n (d - 1) (by omega) U I 1 (by omega) (by show 0 ≤ n ∧ n ≤ 1000 ∧ (h 92 (n)) = 0 ∧ (h 90 7) ≤ n; omega) (by omega)) ?_
  rintro _ _ _ ⟨v2, rfl, rfl, rfl, f1⟩
  show ov_R u d ov_m218 5 [(0, ov_r 90)] [ov_i v2] z h (P_Mo_readLine_90 F z h n)
  have f3 : (v2 = 0 ∨ v2 = 1) ∧ (v2 = 1 → (h 90 7) < n) ∧ (v2 = 1 → (h 90 8) = 0 ∧ (h 92 ((h 90 7))) = 1 ∧ (h 94 ((h 90 7))) = (h 95 ((1 : Int)))) ∧ (v2 = 0 → ¬ ((h 90 8) = 0 ∧ (h 92 ((h 90 7))) = 1 ∧ (h 94 ((h 90 7))) = (h 95 ((1 : Int))))) := f1
  clear f1
  refine ov_ifeq (tgt := 15) d_218_5 (by decide) (by omega) (fun c4 => ?_) (fun c4 => ?_)
  · skip
    have f3_ : v2 = 0 := by omega
    have f5 : ¬ ((h 90 8) = 0 ∧ (h 92 ((h 90 7))) = 1 ∧ (h 94 ((h 90 7))) = (h 95 ((1 : Int)))) := f3.2.2.2 (by omega)
    clear f3
    refine ov_blk (ls2 := [(0, ov_r 90)]) (st2 := [ov_i 2, ov_r 90]) (pc2 := 17) b_218_15_2 rfl rfl ?_
    refine ov_cV (as := [ov_i 2]) (st := []) (d2 := d - 1) d_218_17 lk_Mo_189 rfl (Nat.le_of_ble_eq_true rfl) (c := 1) (zb_90 I) (zs_90 I) ⟨by decide, rfl⟩ (by omega) (c_Mo_isWord_90 n (d - 1) (by omega) U I 2 (by omega) (by show 0 ≤ n ∧ n ≤ 1000 ∧ (h 92 (n)) = 0 ∧ (h 90 7) ≤ n; omega) (by omega)) ?_
    rintro _ _ _ ⟨v7, rfl, rfl, rfl, f6⟩
    show ov_R u d ov_m218 20 [(0, ov_r 90)] [ov_i v7] z h (P_Mo_readLine_90 F z h n)
    have f8 : (v7 = 0 ∨ v7 = 1) ∧ (v7 = 1 → (h 90 7) < n) ∧ (v7 = 1 → (h 90 8) = 0 ∧ (h 92 ((h 90 7))) = 1 ∧ (h 94 ((h 90 7))) = (h 95 ((2 : Int)))) ∧ (v7 = 0 → ¬ ((h 90 8) = 0 ∧ (h 92 ((h 90 7))) = 1 ∧ (h 94 ((h 90 7))) = (h 95 ((2 : Int))))) := f6
    clear f6
    refine ov_ifeq (tgt := 30) d_218_20 (by decide) (by omega) (fun c9 => ?_) (fun c9 => ?_)
    · skip
      have f8_ : v7 = 0 := by omega
      have f10 : ¬ ((h 90 8) = 0 ∧ (h 92 ((h 90 7))) = 1 ∧ (h 94 ((h 90 7))) = (h 95 ((2 : Int)))) := f8.2.2.2 (by omega)
      clear f8
      refine ov_blk (ls2 := [(0, ov_r 90)]) (st2 := [ov_i 3, ov_r 90]) (pc2 := 32) b_218_30_2 rfl rfl ?_
      refine ov_cV (as := [ov_i 3]) (st := []) (d2 := d - 1) d_218_32 lk_Mo_189 rfl (Nat.le_of_ble_eq_true rfl) (c := 1) (zb_90 I) (zs_90 I) ⟨by decide, rfl⟩ (by omega) (c_Mo_isWord_90 n (d - 1) (by omega) U I 3 (by omega) (by show 0 ≤ n ∧ n ≤ 1000 ∧ (h 92 (n)) = 0 ∧ (h 90 7) ≤ n; omega) (by omega)) ?_
      rintro _ _ _ ⟨v12, rfl, rfl, rfl, f11⟩
      show ov_R u d ov_m218 35 [(0, ov_r 90)] [ov_i v12] z h (P_Mo_readLine_90 F z h n)
      have f13 : (v12 = 0 ∨ v12 = 1) ∧ (v12 = 1 → (h 90 7) < n) ∧ (v12 = 1 → (h 90 8) = 0 ∧ (h 92 ((h 90 7))) = 1 ∧ (h 94 ((h 90 7))) = (h 95 ((3 : Int)))) ∧ (v12 = 0 → ¬ ((h 90 8) = 0 ∧ (h 92 ((h 90 7))) = 1 ∧ (h 94 ((h 90 7))) = (h 95 ((3 : Int))))) := f11
      clear f11
      refine ov_ifeq (tgt := 45) d_218_35 (by decide) (by omega) (fun c14 => ?_) (fun c14 => ?_)
      · skip
        have f13_ : v12 = 0 := by omega
        have f15 : ¬ ((h 90 8) = 0 ∧ (h 92 ((h 90 7))) = 1 ∧ (h 94 ((h 90 7))) = (h 95 ((3 : Int)))) := f13.2.2.2 (by omega)
        clear f13
        refine ov_blk (ls2 := [(0, ov_r 90)]) (st2 := [ov_r 90]) (pc2 := 46) b_218_45_1 rfl rfl ?_
        refine ov_cV (as := []) (st := []) (d2 := d - 1) d_218_46 lk_Mo_229 rfl (Nat.le_of_ble_eq_true rfl) (c := 1) (zb_90 I) (zs_90 I) ⟨by decide, rfl⟩ (by omega) (c_Mo_readOnce_90 n (d - 1) (by omega) U I (by show 0 ≤ n ∧ n ≤ 1000 ∧ (h 92 (n)) = 0 ∧ (h 90 7) ≤ n; omega) (by show (h 90 13) ≤ (h 90 7); omega) (by show (h 90 8) = 0; omega) (by show (h 90 7) < n; omega)) ?_
        rintro _ z34 h35 ⟨rfl, I36, f16, e17, e18, e19, e20, e21, e22, e23, e24, e25, e26, e27, e28, e29, e30, y31, y32, y33⟩
        have E37 : h35 91 = h 91 := e17
        have E38 : h35 92 = h 92 := e18
        have E39 : h35 93 = h 93 := e19
        have E40 : h35 94 = h 94 := e20
        have E41 : h35 95 = h 95 := e21
        have E42 : h35 97 = h 97 := e22
        have E43 : h35 98 = h 98 := e23
        have E44 : h35 99 = h 99 := e24
        have E45 : h35 100 = h 100 := e25
        have E46 : h35 103 = h 103 := e26
        have E47 : h35 105 = h 105 := e27
        have E48 : h35 106 = h 106 := e28
        have E49 : h35 109 = h 109 := e29
        have E50 : h35 114 = h 114 := e30
        show ov_R u d ov_m218 49 [(0, ov_r 90)] [] z34 h35 (P_Mo_readLine_90 F z h n)
        have f51 : (h35 90 2) = (h 90 2) ∧ (h35 90 13) = (h 90 13) ∧ (h35 90 20) = (h 90 20) ∧ (h35 90 22) = (h 90 22) ∧ (h35 90 25) = (h 90 25) ∧ (h35 90 26) = (h 90 26) ∧ (h35 90 28) = (h 90 28) ∧ (h35 90 29) = (h 90 29) ∧ (h35 90 30) = (h 90 30) ∧ (h35 90 34) = (h 90 34) ∧ (h 90 7) ≤ (h35 90 7) ∧ (h35 90 7) ≤ n ∧ (h 90 13) ≤ (h35 90 13) ∧ (h35 90 13) - (h 90 13) ≤ (h35 90 7) - (h 90 7) ∧ (h35 96 340) = (h 96 340) ∧ (h35 96 341) = (h 96 341) ∧ ((h35 90 8) = 0 → 1 ≤ (h 96 342) → 1 ≤ (h35 96 342)) ∧ (1 ≤ (h 96 349) → 1 ≤ (h35 96 349)) := f16
        clear f16
        rw [E42] at y31
        rw [E43] at y31
        have y31_ : ov_MK (h 96) (h 97) (h 98) (h35 96) (h 97) (h 98) := y31
        have y32_ : ov_WS (h 96) → ov_WS (h35 96) := y32
        rw [E42] at y33
        rw [E43] at y33
        have y33_ : (h35 90 8) = 0 → ov_CS (h 96) (h 97) (h 98) (h 90 13) → ov_CS (h35 96) (h 97) (h 98) (h35 90 13) := y33
        exact ov_retv (st := []) d_218_49 rfl ⟨rfl, I36, (by show (h35 90 2) = (h 90 2) ∧ (h35 90 20) = (h 90 20) ∧ (h35 90 22) = (h 90 22) ∧ (h35 90 25) = (h 90 25) ∧ (h35 90 26) = (h 90 26) ∧ (h35 90 28) = (h 90 28) ∧ (h35 90 29) = (h 90 29) ∧ (h35 90 30) = (h 90 30) ∧ (h35 90 34) = (h 90 34) ∧ (h 90 7) ≤ (h35 90 7) ∧ (h35 90 7) ≤ n ∧ (h 90 13) ≤ (h35 90 13) ∧ (h35 90 13) - (h 90 13) ≤ (h35 90 7) - (h 90 7) ∧ (h35 96 340) = (h 96 340) ∧ (h35 96 341) = (h 96 341) ∧ ((h35 90 8) = 0 → 1 ≤ (h 96 342) → 1 ≤ (h35 96 342)) ∧ (1 ≤ (h 96 349) → 1 ≤ (h35 96 349)); omega), E37, E38, E39, E40, E41, E45, E46, E47, E48, E49, E50, (by show ov_MK (h 96) (h 97) (h 98) (h35 96) (h35 97) (h35 98); rw [show h35 97 = h 97 from E42, show h35 98 = h 98 from E43]; exact y31_), (by show ov_WS (h 96) → ov_WS (h35 96); exact y32_), (by show (h35 90 8) = 0 → ov_CS (h 96) (h 97) (h 98) (h 90 13) → ov_CS (h35 96) (h35 97) (h35 98) (h35 90 13); rw [show h35 97 = h 97 from E42, show h35 98 = h 98 from E43]; exact y33_)⟩
      · skip
        have f13_ : v12 = 1 := by omega
        have f52 : (h 90 7) < n := f13.2.1 (by omega)
        have f53 : (h 90 8) = 0 ∧ (h 92 ((h 90 7))) = 1 ∧ (h 94 ((h 90 7))) = (h 95 ((3 : Int))) := f13.2.2.1 (by omega)
        clear f13
        refine ov_blk (ls2 := [(0, ov_r 90)]) (st2 := [ov_r 90]) (pc2 := 39) b_218_38_1 rfl rfl ?_
        refine ov_cV (as := []) (st := []) (d2 := d - 1) d_218_39 lk_Mo_226 rfl (Nat.le_of_ble_eq_true rfl) (c := 1) (zb_90 I) (zs_90 I) ⟨by decide, rfl⟩ (by omega) (c_Mo_readRule_90 n (d - 1) (by omega) U I (by show 0 ≤ n ∧ n ≤ 1000 ∧ (h 92 (n)) = 0 ∧ (h 90 7) ≤ n; omega) (by show (h 90 13) ≤ (h 90 7); omega) (by show (h 90 8) = 0; omega) (by show (h 90 7) < n; omega)) ?_
        rintro _ z69 h70 ⟨rfl, I71, f54, e55, e56, e57, e58, e59, e60, e61, e62, e63, e64, e65, y66, y67, y68⟩
        have E72 : h70 91 = h 91 := e55
        have E73 : h70 92 = h 92 := e56
        have E74 : h70 93 = h 93 := e57
        have E75 : h70 94 = h 94 := e58
        have E76 : h70 95 = h 95 := e59
        have E77 : h70 100 = h 100 := e60
        have E78 : h70 103 = h 103 := e61
        have E79 : h70 105 = h 105 := e62
        have E80 : h70 106 = h 106 := e63
        have E81 : h70 109 = h 109 := e64
        have E82 : h70 114 = h 114 := e65
        show ov_R u d ov_m218 42 [(0, ov_r 90)] [] z69 h70 (P_Mo_readLine_90 F z h n)
        have f83 : (h70 90 2) = (h 90 2) ∧ (h70 90 20) = (h 90 20) ∧ (h70 90 22) = (h 90 22) ∧ (h70 90 25) = (h 90 25) ∧ (h70 90 26) = (h 90 26) ∧ (h70 90 28) = (h 90 28) ∧ (h70 90 29) = (h 90 29) ∧ (h70 90 30) = (h 90 30) ∧ (h70 90 34) = (h 90 34) ∧ (h 90 7) ≤ (h70 90 7) ∧ (h70 90 7) ≤ n ∧ (h 90 13) ≤ (h70 90 13) ∧ (h70 90 13) - (h 90 13) ≤ (h70 90 7) - (h 90 7) ∧ (h70 96 340) = (h 96 340) ∧ (h70 96 341) = (h 96 341) ∧ ((h70 90 8) = 0 → 1 ≤ (h 96 342) → 1 ≤ (h70 96 342)) ∧ (1 ≤ (h 96 349) → 1 ≤ (h70 96 349)) := f54
        clear f54
        have y66_ : ov_MK (h 96) (h 97) (h 98) (h70 96) (h70 97) (h70 98) := y66
        have y67_ : ov_WS (h 96) → ov_WS (h70 96) := y67
        have y68_ : (h70 90 8) = 0 → ov_CS (h 96) (h 97) (h 98) (h 90 13) → ov_CS (h70 96) (h70 97) (h70 98) (h70 90 13) := y68
        refine ov_goto (tgt := 49) d_218_42 (by decide) ?_
        exact ov_retv (st := []) d_218_49 rfl ⟨rfl, I71, (by show (h70 90 2) = (h 90 2) ∧ (h70 90 20) = (h 90 20) ∧ (h70 90 22) = (h 90 22) ∧ (h70 90 25) = (h 90 25) ∧ (h70 90 26) = (h 90 26) ∧ (h70 90 28) = (h 90 28) ∧ (h70 90 29) = (h 90 29) ∧ (h70 90 30) = (h 90 30) ∧ (h70 90 34) = (h 90 34) ∧ (h 90 7) ≤ (h70 90 7) ∧ (h70 90 7) ≤ n ∧ (h 90 13) ≤ (h70 90 13) ∧ (h70 90 13) - (h 90 13) ≤ (h70 90 7) - (h 90 7) ∧ (h70 96 340) = (h 96 340) ∧ (h70 96 341) = (h 96 341) ∧ ((h70 90 8) = 0 → 1 ≤ (h 96 342) → 1 ≤ (h70 96 342)) ∧ (1 ≤ (h 96 349) → 1 ≤ (h70 96 349)); omega), E72, E73, E74, E75, E76, E77, E78, E79, E80, E81, E82, (by show ov_MK (h 96) (h 97) (h 98) (h70 96) (h70 97) (h70 98); exact y66_), (by show ov_WS (h 96) → ov_WS (h70 96); exact y67_), (by show (h70 90 8) = 0 → ov_CS (h 96) (h 97) (h 98) (h 90 13) → ov_CS (h70 96) (h70 97) (h70 98) (h70 90 13); exact y68_)⟩
    · skip
      have f8_ : v7 = 1 := by omega
      have f84 : (h 90 7) < n := f8.2.1 (by omega)
      have f85 : (h 90 8) = 0 ∧ (h 92 ((h 90 7))) = 1 ∧ (h 94 ((h 90 7))) = (h 95 ((2 : Int))) := f8.2.2.1 (by omega)
      clear f8
      refine ov_blk (ls2 := [(0, ov_r 90)]) (st2 := [ov_r 90]) (pc2 := 24) b_218_23_1 rfl rfl ?_
      refine ov_cV (as := []) (st := []) (d2 := d - 1) d_218_24 lk_Mo_223 rfl (Nat.le_of_ble_eq_true rfl) (c := 1) (zb_90 I) (zs_90 I) ⟨by decide, rfl⟩ (by omega) (c_Mo_readBar_90 n (d - 1) (by omega) U I (by show 0 ≤ n ∧ n ≤ 1000 ∧ (h 92 (n)) = 0 ∧ (h 90 7) ≤ n; omega) (by show (h 90 13) ≤ (h 90 7); omega) (by show (h 90 8) = 0; omega) (by show (h 90 7) < n; omega)) ?_
      rintro _ z104 h105 ⟨rfl, I106, f86, e87, e88, e89, e90, e91, e92, e93, e94, e95, e96, e97, e98, e99, e100, y101, y102, y103⟩
      have E107 : h105 91 = h 91 := e87
      have E108 : h105 92 = h 92 := e88
      have E109 : h105 93 = h 93 := e89
      have E110 : h105 94 = h 94 := e90
      have E111 : h105 95 = h 95 := e91
      have E112 : h105 97 = h 97 := e92
      have E113 : h105 98 = h 98 := e93
      have E114 : h105 99 = h 99 := e94
      have E115 : h105 100 = h 100 := e95
      have E116 : h105 103 = h 103 := e96
      have E117 : h105 105 = h 105 := e97
      have E118 : h105 106 = h 106 := e98
      have E119 : h105 109 = h 109 := e99
      have E120 : h105 114 = h 114 := e100
      show ov_R u d ov_m218 27 [(0, ov_r 90)] [] z104 h105 (P_Mo_readLine_90 F z h n)
      have f121 : (h105 90 2) = (h 90 2) ∧ (h105 90 13) = (h 90 13) ∧ (h105 90 20) = (h 90 20) ∧ (h105 90 22) = (h 90 22) ∧ (h105 90 25) = (h 90 25) ∧ (h105 90 26) = (h 90 26) ∧ (h105 90 28) = (h 90 28) ∧ (h105 90 29) = (h 90 29) ∧ (h105 90 30) = (h 90 30) ∧ (h105 90 34) = (h 90 34) ∧ (h 90 7) ≤ (h105 90 7) ∧ (h105 90 7) ≤ n ∧ (h 90 13) ≤ (h105 90 13) ∧ (h105 90 13) - (h 90 13) ≤ (h105 90 7) - (h 90 7) ∧ (h105 96 340) = (h 96 340) ∧ (h105 96 341) = (h 96 341) ∧ ((h105 90 8) = 0 → 1 ≤ (h 96 342) → 1 ≤ (h105 96 342)) ∧ (1 ≤ (h 96 349) → 1 ≤ (h105 96 349)) := f86
      clear f86
      rw [E112] at y101
      rw [E113] at y101
      have y101_ : ov_MK (h 96) (h 97) (h 98) (h105 96) (h 97) (h 98) := y101
      have y102_ : ov_WS (h 96) → ov_WS (h105 96) := y102
      rw [E112] at y103
      rw [E113] at y103
      have y103_ : (h105 90 8) = 0 → ov_CS (h 96) (h 97) (h 98) (h 90 13) → ov_CS (h105 96) (h 97) (h 98) (h105 90 13) := y103
      refine ov_goto (tgt := 49) d_218_27 (by decide) ?_
      exact ov_retv (st := []) d_218_49 rfl ⟨rfl, I106, (by show (h105 90 2) = (h 90 2) ∧ (h105 90 20) = (h 90 20) ∧ (h105 90 22) = (h 90 22) ∧ (h105 90 25) = (h 90 25) ∧ (h105 90 26) = (h 90 26) ∧ (h105 90 28) = (h 90 28) ∧ (h105 90 29) = (h 90 29) ∧ (h105 90 30) = (h 90 30) ∧ (h105 90 34) = (h 90 34) ∧ (h 90 7) ≤ (h105 90 7) ∧ (h105 90 7) ≤ n ∧ (h 90 13) ≤ (h105 90 13) ∧ (h105 90 13) - (h 90 13) ≤ (h105 90 7) - (h 90 7) ∧ (h105 96 340) = (h 96 340) ∧ (h105 96 341) = (h 96 341) ∧ ((h105 90 8) = 0 → 1 ≤ (h 96 342) → 1 ≤ (h105 96 342)) ∧ (1 ≤ (h 96 349) → 1 ≤ (h105 96 349)); omega), E107, E108, E109, E110, E111, E115, E116, E117, E118, E119, E120, (by show ov_MK (h 96) (h 97) (h 98) (h105 96) (h105 97) (h105 98); rw [show h105 97 = h 97 from E112, show h105 98 = h 98 from E113]; exact y101_), (by show ov_WS (h 96) → ov_WS (h105 96); exact y102_), (by show (h105 90 8) = 0 → ov_CS (h 96) (h 97) (h 98) (h 90 13) → ov_CS (h105 96) (h105 97) (h105 98) (h105 90 13); rw [show h105 97 = h 97 from E112, show h105 98 = h 98 from E113]; exact y103_)⟩
  · skip
    have f3_ : v2 = 1 := by omega
    have f122 : (h 90 7) < n := f3.2.1 (by omega)
    have f123 : (h 90 8) = 0 ∧ (h 92 ((h 90 7))) = 1 ∧ (h 94 ((h 90 7))) = (h 95 ((1 : Int))) := f3.2.2.1 (by omega)
    clear f3
    refine ov_blk (ls2 := [(0, ov_r 90)]) (st2 := [ov_r 90]) (pc2 := 9) b_218_8_1 rfl rfl ?_
    refine ov_cV (as := []) (st := []) (d2 := d - 1) d_218_9 lk_Mo_220 rfl (Nat.le_of_ble_eq_true rfl) (c := 1) (zb_90 I) (zs_90 I) ⟨by decide, rfl⟩ (by omega) (c_Mo_readLight_90 n (d - 1) (by omega) U I (by show 0 ≤ n ∧ n ≤ 1000 ∧ (h 92 (n)) = 0 ∧ (h 90 7) ≤ n; omega) (by show (h 90 13) ≤ (h 90 7); omega) (by show (h 90 8) = 0; omega) (by show (h 90 7) < n; omega)) ?_
    rintro _ z142 h143 ⟨rfl, I144, f124, e125, e126, e127, e128, e129, e130, e131, e132, e133, e134, e135, e136, e137, e138, y139, y140, y141⟩
    have E145 : h143 91 = h 91 := e125
    have E146 : h143 92 = h 92 := e126
    have E147 : h143 93 = h 93 := e127
    have E148 : h143 94 = h 94 := e128
    have E149 : h143 95 = h 95 := e129
    have E150 : h143 97 = h 97 := e130
    have E151 : h143 98 = h 98 := e131
    have E152 : h143 99 = h 99 := e132
    have E153 : h143 100 = h 100 := e133
    have E154 : h143 103 = h 103 := e134
    have E155 : h143 105 = h 105 := e135
    have E156 : h143 106 = h 106 := e136
    have E157 : h143 109 = h 109 := e137
    have E158 : h143 114 = h 114 := e138
    show ov_R u d ov_m218 12 [(0, ov_r 90)] [] z142 h143 (P_Mo_readLine_90 F z h n)
    have f159 : (h143 90 2) = (h 90 2) ∧ (h143 90 13) = (h 90 13) ∧ (h143 90 20) = (h 90 20) ∧ (h143 90 22) = (h 90 22) ∧ (h143 90 25) = (h 90 25) ∧ (h143 90 26) = (h 90 26) ∧ (h143 90 28) = (h 90 28) ∧ (h143 90 29) = (h 90 29) ∧ (h143 90 30) = (h 90 30) ∧ (h143 90 34) = (h 90 34) ∧ (h 90 7) ≤ (h143 90 7) ∧ (h143 90 7) ≤ n ∧ (h 90 13) ≤ (h143 90 13) ∧ (h143 90 13) - (h 90 13) ≤ (h143 90 7) - (h 90 7) ∧ (h143 96 340) = (h 96 340) ∧ (h143 96 341) = (h 96 341) ∧ ((h143 90 8) = 0 → 1 ≤ (h 96 342) → 1 ≤ (h143 96 342)) ∧ (1 ≤ (h 96 349) → 1 ≤ (h143 96 349)) := f124
    clear f124
    rw [E150] at y139
    rw [E151] at y139
    have y139_ : ov_MK (h 96) (h 97) (h 98) (h143 96) (h 97) (h 98) := y139
    have y140_ : ov_WS (h 96) → ov_WS (h143 96) := y140
    rw [E150] at y141
    rw [E151] at y141
    have y141_ : (h143 90 8) = 0 → ov_CS (h 96) (h 97) (h 98) (h 90 13) → ov_CS (h143 96) (h 97) (h 98) (h143 90 13) := y141
    refine ov_goto (tgt := 49) d_218_12 (by decide) ?_
    exact ov_retv (st := []) d_218_49 rfl ⟨rfl, I144, (by show (h143 90 2) = (h 90 2) ∧ (h143 90 20) = (h 90 20) ∧ (h143 90 22) = (h 90 22) ∧ (h143 90 25) = (h 90 25) ∧ (h143 90 26) = (h 90 26) ∧ (h143 90 28) = (h 90 28) ∧ (h143 90 29) = (h 90 29) ∧ (h143 90 30) = (h 90 30) ∧ (h143 90 34) = (h 90 34) ∧ (h 90 7) ≤ (h143 90 7) ∧ (h143 90 7) ≤ n ∧ (h 90 13) ≤ (h143 90 13) ∧ (h143 90 13) - (h 90 13) ≤ (h143 90 7) - (h 90 7) ∧ (h143 96 340) = (h 96 340) ∧ (h143 96 341) = (h 96 341) ∧ ((h143 90 8) = 0 → 1 ≤ (h 96 342) → 1 ≤ (h143 96 342)) ∧ (1 ≤ (h 96 349) → 1 ≤ (h143 96 349)); omega), E145, E146, E147, E148, E149, E153, E154, E155, E156, E157, E158, (by show ov_MK (h 96) (h 97) (h 98) (h143 96) (h143 97) (h143 98); rw [show h143 97 = h 97 from E150, show h143 98 = h 98 from E151]; exact y139_), (by show ov_WS (h 96) → ov_WS (h143 96); exact y140_), (by show (h143 90 8) = 0 → ov_CS (h 96) (h 97) (h 98) (h 90 13) → ov_CS (h143 96) (h143 97) (h143 98) (h143 90 13); rw [show h143 97 = h 97 from E150, show h143 98 = h 98 from E151]; exact y141_)⟩
abbrev P_Mo_standsAsAlways_90 (F : ov_H × ov_Z) (z : ov_Z) (h : ov_H) (a : Int) : Option ov_V → ov_Z → ov_H → Prop := fun r0 z' h' => r0 = none ∧ ov_N F z' h' ∧ ((h' 90 2) = (h 90 2) ∧ (h' 90 7) = (h 90 7) ∧ (h' 90 8) = (h 90 8) ∧ (h' 90 13) = (h 90 13) ∧ (h' 90 20) = (h 90 20) ∧ (h' 90 22) = (h 90 22) ∧ (h' 90 25) = (h 90 25) ∧ (h' 90 26) = (h 90 26) ∧ (h' 90 28) = (h 90 28) ∧ (h' 90 29) = (h 90 29) ∧ (h' 90 30) = (h 90 30) ∧ (h' 90 34) = (h 90 34) ∧ (h' 96 348) = 0 ∧ (h' 96 342) = 10 ∧ (h' 96 349) = 1) ∧ h' 91 = h 91 ∧ h' 92 = h 92 ∧ h' 93 = h 93 ∧ h' 94 = h 94 ∧ h' 95 = h 95 ∧ h' 97 = h 97 ∧ h' 98 = h 98 ∧ h' 99 = h 99 ∧ h' 100 = h 100 ∧ h' 103 = h 103 ∧ h' 105 = h 105 ∧ h' 106 = h 106 ∧ h' 109 = h 109 ∧ h' 114 = h 114 ∧ (∀ j : Int, j < 340 → (h' 96) j = (h 96) j) ∧ (ov_WS (h' 96))
set_option maxHeartbeats 4000000 in
theorem c_Mo_standsAsAlways_90 {u : ov_U} {F : ov_H × ov_Z} {z : ov_Z} {h : ov_H} (d : Nat) (hd : 0 ≤ d) (U : ov_cap u) (I : ov_N F z h) (a : Int) (g_a : ov_g a) (p0 : a = 340) : ov_T u d ov_m203 [ov_r 90, ov_i a] z h (P_Mo_standsAsAlways_90 F z h a) := by
  refine ov_en rfl (Nat.le_of_ble_eq_true rfl) ?_
  show ov_R u d ov_m203 0 [(0, ov_r 90), (1, ov_i a)] [] z h (P_Mo_standsAsAlways_90 F z h a)
  refine ov_blk (ls2 := [(0, ov_r 90), (1, ov_i a), (2, ov_i 0)]) (st2 := []) (pc2 := 2) b_203_0_2 rfl rfl ?_
  have L4 : ∀ (n1 : Nat) (x2 : Int) (z5 : ov_Z) (h6 : ov_H) (I7 : ov_N F z5 h6) (E8 : h6 91 = h 91) (E9 : h6 92 = h 92) (E10 : h6 93 = h 93) (E11 : h6 94 = h 94) (E12 : h6 95 = h 95) (E13 : h6 97 = h 97) (E14 : h6 98 = h 98) (E15 : h6 99 = h 99) (E16 : h6 100 = h 100) (E17 : h6 103 = h 103) (E18 : h6 105 = h 105) (E19 : h6 106 = h 106) (E20 : h6 109 = h 109) (E21 : h6 114 = h 114) (xz : ∀ j : Int, j < 340 → (h6 96) j = (h 96) j) (xy : ∀ j : Int, 340 ≤ j → j < 340 + x2 → (h6 96) j = 0) (q3 : 0 ≤ x2 ∧ x2 ≤ 340 ∧ (h6 90 2) = (h 90 2) ∧ (h6 90 7) = (h 90 7) ∧ (h6 90 8) = (h 90 8) ∧ (h6 90 13) = (h 90 13) ∧ (h6 90 20) = (h 90 20) ∧ (h6 90 22) = (h 90 22) ∧ (h6 90 25) = (h 90 25) ∧ (h6 90 26) = (h 90 26) ∧ (h6 90 28) = (h 90 28) ∧ (h6 90 29) = (h 90 29) ∧ (h6 90 30) = (h 90 30) ∧ (h6 90 34) = (h 90 34)), 340 - x2 < (n1 : Int) → ov_R u d ov_m203 2 [(0, ov_r 90), (1, ov_i a), (2, ov_i x2)] [] z5 h6 (P_Mo_standsAsAlways_90 F z h a) := by
    intro n1
    induction n1 with
    | zero =>
      intro x2 z5 h6 I7 E8 E9 E10 E11 E12 E13 E14 E15 E16 E17 E18 E19 E20 E21 xz xy q3 hn22
      exact absurd hn22 (by omega)
    | succ n1 ih2 =>
      intro x2 z5 h6 I7 E8 E9 E10 E11 E12 E13 E14 E15 E16 E17 E18 E19 E20 E21 xz xy q3 hn22
      refine ov_blk (ls2 := [(0, ov_r 90), (1, ov_i a), (2, ov_i x2)]) (st2 := [ov_i 340, ov_i x2]) (pc2 := 6) b_203_2_2 rfl rfl ?_
      refine ov_icge (tgt := 24) d_203_6 (by decide) (by omega) (by omega) (fun c23 => ?_) (fun c23 => ?_)
      · skip
        refine ov_blk (ls2 := [(0, ov_r 90), (1, ov_i a), (2, ov_i x2)]) (st2 := [ov_r 90]) (pc2 := 25) b_203_24_1 rfl rfl ?_
        refine ov_getf (v := ov_r 96) d_203_25 fl_Mo_81 (zb_90 I7) (zs_90 I7) (congrArg ov_r (rg_90_10 I7)) ?_
        refine ov_blk (ls2 := [(0, ov_r 90), (1, ov_i a), (2, ov_i x2)]) (st2 := [ov_i 10, ov_i (a + 2), ov_r 96]) (pc2 := 33) b_203_28_4 rfl rfl ?_
        refine ov_iast d_203_33 (zb_96 I7) (zs_96 I7) (by omega) ?_
        have I24 := ua_96 (k := (a + 2)) (x := 10) I7 (by refine ⟨?_, ?_, ?_, ?_, ?_, ?_, ?_, ?_, ?_, ?_, ?_, ?_, ?_, ?_, ?_, ?_, ?_, ?_, ?_, ?_, ?_, ?_, ?_, ?_, ?_, ?_, ?_, ?_, ?_⟩ <;> omega)
        refine ov_blk (ls2 := [(0, ov_r 90), (1, ov_i a), (2, ov_i x2)]) (st2 := [ov_r 90]) (pc2 := 35) b_203_34_1 rfl rfl ?_
        refine ov_getf (v := ov_r 96) d_203_35 fl_Mo_81 (zb_90 I24) (zs_90 I24) (congrArg ov_r (rg_90_10 I24)) ?_
        refine ov_blk (ls2 := [(0, ov_r 90), (1, ov_i a), (2, ov_i x2)]) (st2 := [ov_i (-1), ov_i (a + 3), ov_r 96]) (pc2 := 42) b_203_38_4 rfl rfl ?_
        refine ov_iast d_203_42 (zb_96 I24) (zs_96 I24) (by omega) ?_
        have I25 := ua_96 (k := (a + 3)) (x := (-1)) I24 (by refine ⟨?_, ?_, ?_, ?_, ?_, ?_, ?_, ?_, ?_, ?_, ?_, ?_, ?_, ?_, ?_, ?_, ?_, ?_, ?_, ?_, ?_, ?_, ?_, ?_, ?_, ?_, ?_, ?_, ?_⟩ <;> omega)
        refine ov_blk (ls2 := [(0, ov_r 90), (1, ov_i a), (2, ov_i x2)]) (st2 := [ov_r 90]) (pc2 := 44) b_203_43_1 rfl rfl ?_
        refine ov_getf (v := ov_r 96) d_203_44 fl_Mo_81 (zb_90 I25) (zs_90 I25) (congrArg ov_r (rg_90_10 I25)) ?_
        refine ov_blk (ls2 := [(0, ov_r 90), (1, ov_i a), (2, ov_i x2)]) (st2 := [ov_i (-1), ov_i (a + 4), ov_r 96]) (pc2 := 51) b_203_47_4 rfl rfl ?_
        refine ov_iast d_203_51 (zb_96 I25) (zs_96 I25) (by omega) ?_
        have I26 := ua_96 (k := (a + 4)) (x := (-1)) I25 (by refine ⟨?_, ?_, ?_, ?_, ?_, ?_, ?_, ?_, ?_, ?_, ?_, ?_, ?_, ?_, ?_, ?_, ?_, ?_, ?_, ?_, ?_, ?_, ?_, ?_, ?_, ?_, ?_, ?_, ?_⟩ <;> omega)
        refine ov_blk (ls2 := [(0, ov_r 90), (1, ov_i a), (2, ov_i x2)]) (st2 := [ov_r 90]) (pc2 := 53) b_203_52_1 rfl rfl ?_
        refine ov_getf (v := ov_r 96) d_203_53 fl_Mo_81 (zb_90 I26) (zs_90 I26) (congrArg ov_r (rg_90_10 I26)) ?_
        refine ov_blk (ls2 := [(0, ov_r 90), (1, ov_i a), (2, ov_i x2)]) (st2 := [ov_i 1, ov_i (a + 9), ov_r 96]) (pc2 := 61) b_203_56_4 rfl rfl ?_
        refine ov_iast d_203_61 (zb_96 I26) (zs_96 I26) (by omega) ?_
        have I27 := ua_96 (k := (a + 9)) (x := 1) I26 (by refine ⟨?_, ?_, ?_, ?_, ?_, ?_, ?_, ?_, ?_, ?_, ?_, ?_, ?_, ?_, ?_, ?_, ?_, ?_, ?_, ?_, ?_, ?_, ?_, ?_, ?_, ?_, ?_, ?_, ?_⟩ <;> omega)
        have z348 := xy 348 (by decide) (by omega)
        have y348 : (ov_up (ov_up (ov_up (ov_up h6 96 (a + 2) 10) 96 (a + 3) (-1)) 96 (a + 4) (-1)) 96 (a + 9) 1) 96 348 = 0 := by rw [ov_up_j (by omega)]; rw [ov_up_j (by omega)]; rw [ov_up_j (by omega)]; rw [ov_up_j (by omega)]; exact z348
        have y342 : (ov_up (ov_up (ov_up (ov_up h6 96 (a + 2) 10) 96 (a + 3) (-1)) 96 (a + 4) (-1)) 96 (a + 9) 1) 96 342 = 10 := by rw [ov_up_j (by omega)]; rw [ov_up_j (by omega)]; rw [ov_up_j (by omega)]; rw [show (342 : Int) = a + 2 by omega, ov_up_row, ov_rs_eq]
        have y349 : (ov_up (ov_up (ov_up (ov_up h6 96 (a + 2) 10) 96 (a + 3) (-1)) 96 (a + 4) (-1)) 96 (a + 9) 1) 96 349 = 1 := by rw [show (349 : Int) = a + 9 by omega, ov_up_row, ov_rs_eq]
        exact ov_retv (st := []) d_203_62 rfl ⟨rfl, I27, (by show (h6 90 2) = (h 90 2) ∧ (h6 90 7) = (h 90 7) ∧ (h6 90 8) = (h 90 8) ∧ (h6 90 13) = (h 90 13) ∧ (h6 90 20) = (h 90 20) ∧ (h6 90 22) = (h 90 22) ∧ (h6 90 25) = (h 90 25) ∧ (h6 90 26) = (h 90 26) ∧ (h6 90 28) = (h 90 28) ∧ (h6 90 29) = (h 90 29) ∧ (h6 90 30) = (h 90 30) ∧ (h6 90 34) = (h 90 34) ∧ ((ov_up (ov_up (ov_up (ov_up h6 96 (a + 2) 10) 96 (a + 3) (-1)) 96 (a + 4) (-1)) 96 (a + 9) 1) 96 348) = 0 ∧ ((ov_up (ov_up (ov_up (ov_up h6 96 (a + 2) 10) 96 (a + 3) (-1)) 96 (a + 4) (-1)) 96 (a + 9) 1) 96 342) = 10 ∧ ((ov_up (ov_up (ov_up (ov_up h6 96 (a + 2) 10) 96 (a + 3) (-1)) 96 (a + 4) (-1)) 96 (a + 9) 1) 96 349) = 1; omega), E8, E9, E10, E11, E12, E13, E14, E15, E16, E17, E18, E19, E20, E21, (fun j hj => by show (ov_up (ov_up (ov_up (ov_up h6 96 (a + 2) 10) 96 (a + 3) (-1)) 96 (a + 4) (-1)) 96 (a + 9) 1) 96 j = _; rw [ov_up_j (by omega)]; rw [ov_up_j (by omega)]; rw [ov_up_j (by omega)]; rw [ov_up_j (by omega)]; exact xz j hj), (fun c h0 h1 h2 => by exfalso; have q : (ov_up (ov_up (ov_up (ov_up h6 96 (a + 2) 10) 96 (a + 3) (-1)) 96 (a + 4) (-1)) 96 (a + 9) 1) 96 (350 + 4 * c) = 0 := (by rw [ov_up_j (by omega)]; rw [ov_up_j (by omega)]; rw [ov_up_j (by omega)]; rw [ov_up_j (by omega)]; exact xy _ (by omega) (by omega)); omega)⟩
      · skip
        refine ov_blk (ls2 := [(0, ov_r 90), (1, ov_i a), (2, ov_i x2)]) (st2 := [ov_r 90]) (pc2 := 10) b_203_9_1 rfl rfl ?_
        refine ov_getf (v := ov_r 96) d_203_10 fl_Mo_81 (zb_90 I7) (zs_90 I7) (congrArg ov_r (rg_90_10 I7)) ?_
        refine ov_blk (ls2 := [(0, ov_r 90), (1, ov_i a), (2, ov_i x2)]) (st2 := [ov_i 0, ov_i (a + x2), ov_r 96]) (pc2 := 17) b_203_13_4 rfl rfl ?_
        refine ov_iast d_203_17 (zb_96 I7) (zs_96 I7) (by omega) ?_
        have I28 := ua_96 (k := (a + x2)) (x := 0) I7 (by refine ⟨?_, ?_, ?_, ?_, ?_, ?_, ?_, ?_, ?_, ?_, ?_, ?_, ?_, ?_, ?_, ?_, ?_, ?_, ?_, ?_, ?_, ?_, ?_, ?_, ?_, ?_, ?_, ?_, ?_⟩ <;> omega)
        refine ov_blk (ls2 := [(0, ov_r 90), (1, ov_i a), (2, ov_i (x2 + 1))]) (st2 := []) (pc2 := 21) b_203_18_1 rfl rfl ?_
        refine ov_goto (tgt := 2) d_203_21 (by decide) ?_
        exact ih2 (x2 + 1) _ _ I28 E8 E9 E10 E11 E12 E13 E14 E15 E16 E17 E18 E19 E20 E21 (fun j hj => by rw [ov_up_j (by omega)]; exact xz j hj) (fun j h1 h2 => if e : j = a + x2 then (by rw [e, ov_up_row, ov_rs_eq]) else (by rw [ov_up_j e]; exact xy j h1 (by omega))) (by show 0 ≤ (x2 + 1) ∧ (x2 + 1) ≤ 340 ∧ (h6 90 2) = (h 90 2) ∧ (h6 90 7) = (h 90 7) ∧ (h6 90 8) = (h 90 8) ∧ (h6 90 13) = (h 90 13) ∧ (h6 90 20) = (h 90 20) ∧ (h6 90 22) = (h 90 22) ∧ (h6 90 25) = (h 90 25) ∧ (h6 90 26) = (h 90 26) ∧ (h6 90 28) = (h 90 28) ∧ (h6 90 29) = (h 90 29) ∧ (h6 90 30) = (h 90 30) ∧ (h6 90 34) = (h 90 34); omega) (by omega)
  exact L4 341 0 _ _ I rfl rfl rfl rfl rfl rfl rfl rfl rfl rfl rfl rfl rfl rfl (fun j _ => rfl) (fun j h1 h2 => by omega) (by show 0 ≤ 0 ∧ 0 ≤ 340 ∧ (h 90 2) = (h 90 2) ∧ (h 90 7) = (h 90 7) ∧ (h 90 8) = (h 90 8) ∧ (h 90 13) = (h 90 13) ∧ (h 90 20) = (h 90 20) ∧ (h 90 22) = (h 90 22) ∧ (h 90 25) = (h 90 25) ∧ (h 90 26) = (h 90 26) ∧ (h 90 28) = (h 90 28) ∧ (h 90 29) = (h 90 29) ∧ (h 90 30) = (h 90 30) ∧ (h 90 34) = (h 90 34); omega) (by omega)

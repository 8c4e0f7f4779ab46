abbrev P_Mo_readLine_90 (F : ov_H × ov_Z) (z : ov_Z) (h : ov_H) (n : Int) : Option ov_V → ov_Z → ov_H → Prop := fun r0 z' h' => r0 = none ∧ ov_N F z' h' ∧ ((h' 90 2) = (h 90 2) ∧ (h' 90 20) = (h 90 20) ∧ (h' 90 22) = (h 90 22) ∧ (h' 90 25) = (h 90 25) ∧ (h' 90 26) = (h 90 26) ∧ (h' 90 28) = (h 90 28) ∧ (h' 90 29) = (h 90 29) ∧ (h' 90 30) = (h 90 30) ∧ (h' 90 34) = (h 90 34) ∧ (h 90 7) ≤ (h' 90 7) ∧ (h' 90 7) ≤ n ∧ (h 90 13) ≤ (h' 90 13) ∧ (h' 90 13) - (h 90 13) ≤ (h' 90 7) - (h 90 7) ∧ (h' 96 340) = (h 96 340) ∧ (h' 96 341) = (h 96 341) ∧ ((h' 90 8) = 0 → 1 ≤ (h 96 342) → 1 ≤ (h' 96 342)) ∧ (1 ≤ (h 96 349) → 1 ≤ (h' 96 349))) ∧ h' 91 = h 91 ∧ h' 92 = h 92 ∧ h' 93 = h 93 ∧ h' 94 = h 94 ∧ h' 95 = h 95 ∧ h' 100 = h 100 ∧ h' 103 = h 103 ∧ h' 104 = h 104 ∧ h' 105 = h 105 ∧ h' 106 = h 106 ∧ h' 109 = h 109 ∧ h' 114 = h 114 ∧ (ov_MK (h 96) (h 97) (h 98) (h' 96) (h' 97) (h' 98)) ∧ (ov_WS (h 96) → ov_WS (h' 96)) ∧ ((h' 90 8) = 0 → ov_CS (h 96) (h 97) (h 98) (h 90 13) → ov_CS (h' 96) (h' 97) (h' 98) (h' 90 13))
set_option maxHeartbeats 4000000 in
theorem c_Mo_readLine_90 {u : ov_U} {F : ov_H × ov_Z} (n : Int) {z : ov_Z} {h : ov_H} (d : Nat) (hd : 52 ≤ d) (U : ov_cap u) (I : ov_N F z h) (p0 : 0 ≤ n ∧ n ≤ 1000 ∧ (h 92 (n)) = 0 ∧ (h 90 7) ≤ n) (p1 : (h 90 13) ≤ (h 90 7)) (p2 : (h 90 8) = 0) (p3 : (h 90 7) < n) : ov_T u d ov_m218 [ov_r 90] z h (P_Mo_readLine_90 F z h n) := by
  refine ov_en rfl (Nat.le_of_ble_eq_true rfl) ?_
  show ov_R u d ov_m218 0 [(0, ov_r 90)] [] z h (P_Mo_readLine_90 F z h n)
  refine ov_blk (ls2 := [(0, ov_r 90)]) (st2 := [ov_i 1, ov_r 90]) (pc2 := 2) b_218_0_2 rfl rfl ?_
  refine ov_cV (as := [ov_i 1]) (st := []) (d2 := d - 1) d_218_2 lk_Mo_189 rfl (Nat.le_of_ble_eq_true rfl) (c := 1) (zb_90 I) (zs_90 I) ⟨by decide, rfl⟩ (by omega) (c_Mo_isWord_90 n (d - 1) (by omega) U I 1 (by omega) (by show 0 ≤ n ∧ n ≤ 1000 ∧ (h 92 (n)) = 0 ∧ (h 90 7) ≤ n; omega) (by omega)) ?_
  rintro _ _ _ ⟨v2, rfl, rfl, rfl, f1⟩
  show ov_R u d ov_m218 5 [(0, ov_r 90)] [ov_i v2] z h (P_Mo_readLine_90 F z h n)
  have f3 : (v2 = 0 ∨ v2 = 1) ∧ (v2 = 1 → (h 90 7) < n) ∧ (v2 = 1 → (h 90 8) = 0 ∧ (h 92 ((h 90 7))) = 1 ∧ (h 94 ((h 90 7))) = (h 95 ((1 : Int)))) ∧ (v2 = 0 → ¬ ((h 90 8) = 0 ∧ (h 92 ((h 90 7))) = 1 ∧ (h 94 ((h 90 7))) = (h 95 ((1 : Int))))) := f1
  clear f1
  refine ov_ifeq (tgt := 15) d_218_5 (by decide) (by omega) (fun c4 => ?_) (fun c4 => ?_)
  · skip
    have f3_ : v2 = 0 := by omega
    have f5 : ¬ ((h 90 8) = 0 ∧ (h 92 ((h 90 7))) = 1 ∧ (h 94 ((h 90 7))) = (h 95 ((1 : Int)))) := f3.2.2.2 (by omega)
    clear f3
    refine ov_blk (ls2 := [(0, ov_r 90)]) (st2 := [ov_i 2, ov_r 90]) (pc2 := 17) b_218_15_2 rfl rfl ?_
    refine ov_cV (as := [ov_i 2]) (st := []) (d2 := d - 1) d_218_17 lk_Mo_189 rfl (Nat.le_of_ble_eq_true rfl) (c := 1) (zb_90 I) (zs_90 I) ⟨by decide, rfl⟩ (by omega) (c_Mo_isWord_90 n (d - 1) (by omega) U I 2 (by omega) (by show 0 ≤ n ∧ n ≤ 1000 ∧ (h 92 (n)) = 0 ∧ (h 90 7) ≤ n; omega) (by omega)) ?_
    rintro _ _ _ ⟨v7, rfl, rfl, rfl, f6⟩
    show ov_R u d ov_m218 20 [(0, ov_r 90)] [ov_i v7] z h (P_Mo_readLine_90 F z h n)
    have f8 : (v7 = 0 ∨ v7 = 1) ∧ (v7 = 1 → (h 90 7) < n) ∧ (v7 = 1 → (h 90 8) = 0 ∧ (h 92 ((h 90 7))) = 1 ∧ (h 94 ((h 90 7))) = (h 95 ((2 : Int)))) ∧ (v7 = 0 → ¬ ((h 90 8) = 0 ∧ (h 92 ((h 90 7))) = 1 ∧ (h 94 ((h 90 7))) = (h 95 ((2 : Int))))) := f6
    clear f6
    refine ov_ifeq (tgt := 30) d_218_20 (by decide) (by omega) (fun c9 => ?_) (fun c9 => ?_)
    · skip
      have f8_ : v7 = 0 := by omega
      have f10 : ¬ ((h 90 8) = 0 ∧ (h 92 ((h 90 7))) = 1 ∧ (h 94 ((h 90 7))) = (h 95 ((2 : Int)))) := f8.2.2.2 (by omega)
      clear f8
      refine ov_blk (ls2 := [(0, ov_r 90)]) (st2 := [ov_i 3, ov_r 90]) (pc2 := 32) b_218_30_2 rfl rfl ?_
      refine ov_cV (as := [ov_i 3]) (st := []) (d2 := d - 1) d_218_32 lk_Mo_189 rfl (Nat.le_of_ble_eq_true rfl) (c := 1) (zb_90 I) (zs_90 I) ⟨by decide, rfl⟩ (by omega) (c_Mo_isWord_90 n (d - 1) (by omega) U I 3 (by omega) (by show 0 ≤ n ∧ n ≤ 1000 ∧ (h 92 (n)) = 0 ∧ (h 90 7) ≤ n; omega) (by omega)) ?_
      rintro _ _ _ ⟨v12, rfl, rfl, rfl, f11⟩
      show ov_R u d ov_m218 35 [(0, ov_r 90)] [ov_i v12] z h (P_Mo_readLine_90 F z h n)
      have f13 : (v12 = 0 ∨ v12 = 1) ∧ (v12 = 1 → (h 90 7) < n) ∧ (v12 = 1 → (h 90 8) = 0 ∧ (h 92 ((h 90 7))) = 1 ∧ (h 94 ((h 90 7))) = (h 95 ((3 : Int)))) ∧ (v12 = 0 → ¬ ((h 90 8) = 0 ∧ (h 92 ((h 90 7))) = 1 ∧ (h 94 ((h 90 7))) = (h 95 ((3 : Int))))) := f11
      clear f11
      refine ov_ifeq (tgt := 45) d_218_35 (by decide) (by omega) (fun c14 => ?_) (fun c14 => ?_)
      · skip
        have f13_ : v12 = 0 := by omega
        have f15 : ¬ ((h 90 8) = 0 ∧ (h 92 ((h 90 7))) = 1 ∧ (h 94 ((h 90 7))) = (h 95 ((3 : Int)))) := f13.2.2.2 (by omega)
        clear f13
        refine ov_blk (ls2 := [(0, ov_r 90)]) (st2 := [ov_r 90]) (pc2 := 46) b_218_45_1 rfl rfl ?_
        refine ov_cV (as := []) (st := []) (d2 := d - 1) d_218_46 lk_Mo_229 rfl (Nat.le_of_ble_eq_true rfl) (c := 1) (zb_90 I) (zs_90 I) ⟨by decide, rfl⟩ (by omega) (c_Mo_readOnce_90 n (d - 1) (by omega) U I (by show 0 ≤ n ∧ n ≤ 1000 ∧ (h 92 (n)) = 0 ∧ (h 90 7) ≤ n; omega) (by show (h 90 13) ≤ (h 90 7); omega) (by show (h 90 8) = 0; omega) (by show (h 90 7) < n; omega)) ?_
        rintro _ z35 h36 ⟨rfl, I37, f16, e17, e18, e19, e20, e21, e22, e23, e24, e25, e26, e27, e28, e29, e30, e31, y32, y33, y34⟩
        have E38 : h36 91 = h 91 := e17
        have E39 : h36 92 = h 92 := e18
        have E40 : h36 93 = h 93 := e19
        have E41 : h36 94 = h 94 := e20
        have E42 : h36 95 = h 95 := e21
        have E43 : h36 97 = h 97 := e22
        have E44 : h36 98 = h 98 := e23
        have E45 : h36 99 = h 99 := e24
        have E46 : h36 100 = h 100 := e25
        have E47 : h36 103 = h 103 := e26
        have E48 : h36 104 = h 104 := e27
        have E49 : h36 105 = h 105 := e28
        have E50 : h36 106 = h 106 := e29
        have E51 : h36 109 = h 109 := e30
        have E52 : h36 114 = h 114 := e31
        show ov_R u d ov_m218 49 [(0, ov_r 90)] [] z35 h36 (P_Mo_readLine_90 F z h n)
        have f53 : (h36 90 2) = (h 90 2) ∧ (h36 90 13) = (h 90 13) ∧ (h36 90 20) = (h 90 20) ∧ (h36 90 22) = (h 90 22) ∧ (h36 90 25) = (h 90 25) ∧ (h36 90 26) = (h 90 26) ∧ (h36 90 28) = (h 90 28) ∧ (h36 90 29) = (h 90 29) ∧ (h36 90 30) = (h 90 30) ∧ (h36 90 34) = (h 90 34) ∧ (h 90 7) ≤ (h36 90 7) ∧ (h36 90 7) ≤ n ∧ (h 90 13) ≤ (h36 90 13) ∧ (h36 90 13) - (h 90 13) ≤ (h36 90 7) - (h 90 7) ∧ (h36 96 340) = (h 96 340) ∧ (h36 96 341) = (h 96 341) ∧ ((h36 90 8) = 0 → 1 ≤ (h 96 342) → 1 ≤ (h36 96 342)) ∧ (1 ≤ (h 96 349) → 1 ≤ (h36 96 349)) := f16
        clear f16
        rw [E43] at y32
        rw [E44] at y32
        have y32_ : ov_MK (h 96) (h 97) (h 98) (h36 96) (h 97) (h 98) := y32
        have y33_ : ov_WS (h 96) → ov_WS (h36 96) := y33
        rw [E43] at y34
        rw [E44] at y34
        have y34_ : (h36 90 8) = 0 → ov_CS (h 96) (h 97) (h 98) (h 90 13) → ov_CS (h36 96) (h 97) (h 98) (h36 90 13) := y34
        exact ov_retv (st := []) d_218_49 rfl ⟨rfl, I37, (by show (h36 90 2) = (h 90 2) ∧ (h36 90 20) = (h 90 20) ∧ (h36 90 22) = (h 90 22) ∧ (h36 90 25) = (h 90 25) ∧ (h36 90 26) = (h 90 26) ∧ (h36 90 28) = (h 90 28) ∧ (h36 90 29) = (h 90 29) ∧ (h36 90 30) = (h 90 30) ∧ (h36 90 34) = (h 90 34) ∧ (h 90 7) ≤ (h36 90 7) ∧ (h36 90 7) ≤ n ∧ (h 90 13) ≤ (h36 90 13) ∧ (h36 90 13) - (h 90 13) ≤ (h36 90 7) - (h 90 7) ∧ (h36 96 340) = (h 96 340) ∧ (h36 96 341) = (h 96 341) ∧ ((h36 90 8) = 0 → 1 ≤ (h 96 342) → 1 ≤ (h36 96 342)) ∧ (1 ≤ (h 96 349) → 1 ≤ (h36 96 349)); omega), E38, E39, E40, E41, E42, E46, E47, E48, E49, E50, E51, E52, (by show ov_MK (h 96) (h 97) (h 98) (h36 96) (h36 97) (h36 98); rw [show h36 97 = h 97 from E43, show h36 98 = h 98 from E44]; exact y32_), (by show ov_WS (h 96) → ov_WS (h36 96); exact y33_), (by show (h36 90 8) = 0 → ov_CS (h 96) (h 97) (h 98) (h 90 13) → ov_CS (h36 96) (h36 97) (h36 98) (h36 90 13); rw [show h36 97 = h 97 from E43, show h36 98 = h 98 from E44]; exact y34_)⟩
      · skip
        have f13_ : v12 = 1 := by omega
        have f54 : (h 90 7) < n := f13.2.1 (by omega)
        have f55 : (h 90 8) = 0 ∧ (h 92 ((h 90 7))) = 1 ∧ (h 94 ((h 90 7))) = (h 95 ((3 : Int))) := f13.2.2.1 (by omega)
        clear f13
        refine ov_blk (ls2 := [(0, ov_r 90)]) (st2 := [ov_r 90]) (pc2 := 39) b_218_38_1 rfl rfl ?_
        refine ov_cV (as := []) (st := []) (d2 := d - 1) d_218_39 lk_Mo_226 rfl (Nat.le_of_ble_eq_true rfl) (c := 1) (zb_90 I) (zs_90 I) ⟨by decide, rfl⟩ (by omega) (c_Mo_readRule_90 n (d - 1) (by omega) U I (by show 0 ≤ n ∧ n ≤ 1000 ∧ (h 92 (n)) = 0 ∧ (h 90 7) ≤ n; omega) (by show (h 90 13) ≤ (h 90 7); omega) (by show (h 90 8) = 0; omega) (by show (h 90 7) < n; omega)) ?_
        rintro _ z72 h73 ⟨rfl, I74, f56, e57, e58, e59, e60, e61, e62, e63, e64, e65, e66, e67, e68, y69, y70, y71⟩
        have E75 : h73 91 = h 91 := e57
        have E76 : h73 92 = h 92 := e58
        have E77 : h73 93 = h 93 := e59
        have E78 : h73 94 = h 94 := e60
        have E79 : h73 95 = h 95 := e61
        have E80 : h73 100 = h 100 := e62
        have E81 : h73 103 = h 103 := e63
        have E82 : h73 104 = h 104 := e64
        have E83 : h73 105 = h 105 := e65
        have E84 : h73 106 = h 106 := e66
        have E85 : h73 109 = h 109 := e67
        have E86 : h73 114 = h 114 := e68
        show ov_R u d ov_m218 42 [(0, ov_r 90)] [] z72 h73 (P_Mo_readLine_90 F z h n)
        have f87 : (h73 90 2) = (h 90 2) ∧ (h73 90 20) = (h 90 20) ∧ (h73 90 22) = (h 90 22) ∧ (h73 90 25) = (h 90 25) ∧ (h73 90 26) = (h 90 26) ∧ (h73 90 28) = (h 90 28) ∧ (h73 90 29) = (h 90 29) ∧ (h73 90 30) = (h 90 30) ∧ (h73 90 34) = (h 90 34) ∧ (h 90 7) ≤ (h73 90 7) ∧ (h73 90 7) ≤ n ∧ (h 90 13) ≤ (h73 90 13) ∧ (h73 90 13) - (h 90 13) ≤ (h73 90 7) - (h 90 7) ∧ (h73 96 340) = (h 96 340) ∧ (h73 96 341) = (h 96 341) ∧ ((h73 90 8) = 0 → 1 ≤ (h 96 342) → 1 ≤ (h73 96 342)) ∧ (1 ≤ (h 96 349) → 1 ≤ (h73 96 349)) := f56
        clear f56
        have y69_ : ov_MK (h 96) (h 97) (h 98) (h73 96) (h73 97) (h73 98) := y69
        have y70_ : ov_WS (h 96) → ov_WS (h73 96) := y70
        have y71_ : (h73 90 8) = 0 → ov_CS (h 96) (h 97) (h 98) (h 90 13) → ov_CS (h73 96) (h73 97) (h73 98) (h73 90 13) := y71
        refine ov_goto (tgt := 49) d_218_42 (by decide) ?_
        exact ov_retv (st := []) d_218_49 rfl ⟨rfl, I74, (by show (h73 90 2) = (h 90 2) ∧ (h73 90 20) = (h 90 20) ∧ (h73 90 22) = (h 90 22) ∧ (h73 90 25) = (h 90 25) ∧ (h73 90 26) = (h 90 26) ∧ (h73 90 28) = (h 90 28) ∧ (h73 90 29) = (h 90 29) ∧ (h73 90 30) = (h 90 30) ∧ (h73 90 34) = (h 90 34) ∧ (h 90 7) ≤ (h73 90 7) ∧ (h73 90 7) ≤ n ∧ (h 90 13) ≤ (h73 90 13) ∧ (h73 90 13) - (h 90 13) ≤ (h73 90 7) - (h 90 7) ∧ (h73 96 340) = (h 96 340) ∧ (h73 96 341) = (h 96 341) ∧ ((h73 90 8) = 0 → 1 ≤ (h 96 342) → 1 ≤ (h73 96 342)) ∧ (1 ≤ (h 96 349) → 1 ≤ (h73 96 349)); omega), E75, E76, E77, E78, E79, E80, E81, E82, E83, E84, E85, E86, (by show ov_MK (h 96) (h 97) (h 98) (h73 96) (h73 97) (h73 98); exact y69_), (by show ov_WS (h 96) → ov_WS (h73 96); exact y70_), (by show (h73 90 8) = 0 → ov_CS (h 96) (h 97) (h 98) (h 90 13) → ov_CS (h73 96) (h73 97) (h73 98) (h73 90 13); exact y71_)⟩
    · skip
      have f8_ : v7 = 1 := by omega
      have f88 : (h 90 7) < n := f8.2.1 (by omega)
      have f89 : (h 90 8) = 0 ∧ (h 92 ((h 90 7))) = 1 ∧ (h 94 ((h 90 7))) = (h 95 ((2 : Int))) := f8.2.2.1 (by omega)
      clear f8
      refine ov_blk (ls2 := [(0, ov_r 90)]) (st2 := [ov_r 90]) (pc2 := 24) b_218_23_1 rfl rfl ?_
      refine ov_cV (as := []) (st := []) (d2 := d - 1) d_218_24 lk_Mo_223 rfl (Nat.le_of_ble_eq_true rfl) (c := 1) (zb_90 I) (zs_90 I) ⟨by decide, rfl⟩ (by omega) (c_Mo_readBar_90 n (d - 1) (by omega) U I (by show 0 ≤ n ∧ n ≤ 1000 ∧ (h 92 (n)) = 0 ∧ (h 90 7) ≤ n; omega) (by show (h 90 13) ≤ (h 90 7); omega) (by show (h 90 8) = 0; omega) (by show (h 90 7) < n; omega)) ?_
      rintro _ z109 h110 ⟨rfl, I111, f90, e91, e92, e93, e94, e95, e96, e97, e98, e99, e100, e101, e102, e103, e104, e105, y106, y107, y108⟩
      have E112 : h110 91 = h 91 := e91
      have E113 : h110 92 = h 92 := e92
      have E114 : h110 93 = h 93 := e93
      have E115 : h110 94 = h 94 := e94
      have E116 : h110 95 = h 95 := e95
      have E117 : h110 97 = h 97 := e96
      have E118 : h110 98 = h 98 := e97
      have E119 : h110 99 = h 99 := e98
      have E120 : h110 100 = h 100 := e99
      have E121 : h110 103 = h 103 := e100
      have E122 : h110 104 = h 104 := e101
      have E123 : h110 105 = h 105 := e102
      have E124 : h110 106 = h 106 := e103
      have E125 : h110 109 = h 109 := e104
      have E126 : h110 114 = h 114 := e105
      show ov_R u d ov_m218 27 [(0, ov_r 90)] [] z109 h110 (P_Mo_readLine_90 F z h n)
      have f127 : (h110 90 2) = (h 90 2) ∧ (h110 90 13) = (h 90 13) ∧ (h110 90 20) = (h 90 20) ∧ (h110 90 22) = (h 90 22) ∧ (h110 90 25) = (h 90 25) ∧ (h110 90 26) = (h 90 26) ∧ (h110 90 28) = (h 90 28) ∧ (h110 90 29) = (h 90 29) ∧ (h110 90 30) = (h 90 30) ∧ (h110 90 34) = (h 90 34) ∧ (h 90 7) ≤ (h110 90 7) ∧ (h110 90 7) ≤ n ∧ (h 90 13) ≤ (h110 90 13) ∧ (h110 90 13) - (h 90 13) ≤ (h110 90 7) - (h 90 7) ∧ (h110 96 340) = (h 96 340) ∧ (h110 96 341) = (h 96 341) ∧ ((h110 90 8) = 0 → 1 ≤ (h 96 342) → 1 ≤ (h110 96 342)) ∧ (1 ≤ (h 96 349) → 1 ≤ (h110 96 349)) := f90
      clear f90
      rw [E117] at y106
      rw [E118] at y106
      have y106_ : ov_MK (h 96) (h 97) (h 98) (h110 96) (h 97) (h 98) := y106
      have y107_ : ov_WS (h 96) → ov_WS (h110 96) := y107
      rw [E117] at y108
      rw [E118] at y108
      have y108_ : (h110 90 8) = 0 → ov_CS (h 96) (h 97) (h 98) (h 90 13) → ov_CS (h110 96) (h 97) (h 98) (h110 90 13) := y108
      refine ov_goto (tgt := 49) d_218_27 (by decide) ?_
      exact ov_retv (st := []) d_218_49 rfl ⟨rfl, I111, (by show (h110 90 2) = (h 90 2) ∧ (h110 90 20) = (h 90 20) ∧ (h110 90 22) = (h 90 22) ∧ (h110 90 25) = (h 90 25) ∧ (h110 90 26) = (h 90 26) ∧ (h110 90 28) = (h 90 28) ∧ (h110 90 29) = (h 90 29) ∧ (h110 90 30) = (h 90 30) ∧ (h110 90 34) = (h 90 34) ∧ (h 90 7) ≤ (h110 90 7) ∧ (h110 90 7) ≤ n ∧ (h 90 13) ≤ (h110 90 13) ∧ (h110 90 13) - (h 90 13) ≤ (h110 90 7) - (h 90 7) ∧ (h110 96 340) = (h 96 340) ∧ (h110 96 341) = (h 96 341) ∧ ((h110 90 8) = 0 → 1 ≤ (h 96 342) → 1 ≤ (h110 96 342)) ∧ (1 ≤ (h 96 349) → 1 ≤ (h110 96 349)); omega), E112, E113, E114, E115, E116, E120, E121, E122, E123, E124, E125, E126, (by show ov_MK (h 96) (h 97) (h 98) (h110 96) (h110 97) (h110 98); rw [show h110 97 = h 97 from E117, show h110 98 = h 98 from E118]; exact y106_), (by show ov_WS (h 96) → ov_WS (h110 96); exact y107_), (by show (h110 90 8) = 0 → ov_CS (h 96) (h 97) (h 98) (h 90 13) → ov_CS (h110 96) (h110 97) (h110 98) (h110 90 13); rw [show h110 97 = h 97 from E117, show h110 98 = h 98 from E118]; exact y108_)⟩
  · skip
    have f3_ : v2 = 1 := by omega
    have f128 : (h 90 7) < n := f3.2.1 (by omega)
    have f129 : (h 90 8) = 0 ∧ (h 92 ((h 90 7))) = 1 ∧ (h 94 ((h 90 7))) = (h 95 ((1 : Int))) := f3.2.2.1 (by omega)
    clear f3
    refine ov_blk (ls2 := [(0, ov_r 90)]) (st2 := [ov_r 90]) (pc2 := 9) b_218_8_1 rfl rfl ?_
    refine ov_cV (as := []) (st := []) (d2 := d - 1) d_218_9 lk_Mo_220 rfl (Nat.le_of_ble_eq_true rfl) (c := 1) (zb_90 I) (zs_90 I) ⟨by decide, rfl⟩ (by omega) (c_Mo_readLight_90 n (d - 1) (by omega) U I (by show 0 ≤ n ∧ n ≤ 1000 ∧ (h 92 (n)) = 0 ∧ (h 90 7) ≤ n; omega) (by show (h 90 13) ≤ (h 90 7); omega) (by show (h 90 8) = 0; omega) (by show (h 90 7) < n; omega)) ?_
    rintro _ z149 h150 ⟨rfl, I151, f130, e131, e132, e133, e134, e135, e136, e137, e138, e139, e140, e141, e142, e143, e144, e145, y146, y147, y148⟩
    have E152 : h150 91 = h 91 := e131
    have E153 : h150 92 = h 92 := e132
    have E154 : h150 93 = h 93 := e133
    have E155 : h150 94 = h 94 := e134
    have E156 : h150 95 = h 95 := e135
    have E157 : h150 97 = h 97 := e136
    have E158 : h150 98 = h 98 := e137
    have E159 : h150 99 = h 99 := e138
    have E160 : h150 100 = h 100 := e139
    have E161 : h150 103 = h 103 := e140
    have E162 : h150 104 = h 104 := e141
    have E163 : h150 105 = h 105 := e142
    have E164 : h150 106 = h 106 := e143
    have E165 : h150 109 = h 109 := e144
    have E166 : h150 114 = h 114 := e145
    show ov_R u d ov_m218 12 [(0, ov_r 90)] [] z149 h150 (P_Mo_readLine_90 F z h n)
    have f167 : (h150 90 2) = (h 90 2) ∧ (h150 90 13) = (h 90 13) ∧ (h150 90 20) = (h 90 20) ∧ (h150 90 22) = (h 90 22) ∧ (h150 90 25) = (h 90 25) ∧ (h150 90 26) = (h 90 26) ∧ (h150 90 28) = (h 90 28) ∧ (h150 90 29) = (h 90 29) ∧ (h150 90 30) = (h 90 30) ∧ (h150 90 34) = (h 90 34) ∧ (h 90 7) ≤ (h150 90 7) ∧ (h150 90 7) ≤ n ∧ (h 90 13) ≤ (h150 90 13) ∧ (h150 90 13) - (h 90 13) ≤ (h150 90 7) - (h 90 7) ∧ (h150 96 340) = (h 96 340) ∧ (h150 96 341) = (h 96 341) ∧ ((h150 90 8) = 0 → 1 ≤ (h 96 342) → 1 ≤ (h150 96 342)) ∧ (1 ≤ (h 96 349) → 1 ≤ (h150 96 349)) := f130
    clear f130
    rw [E157] at y146
    rw [E158] at y146
    have y146_ : ov_MK (h 96) (h 97) (h 98) (h150 96) (h 97) (h 98) := y146
    have y147_ : ov_WS (h 96) → ov_WS (h150 96) := y147
    rw [E157] at y148
    rw [E158] at y148
    have y148_ : (h150 90 8) = 0 → ov_CS (h 96) (h 97) (h 98) (h 90 13) → ov_CS (h150 96) (h 97) (h 98) (h150 90 13) := y148
    refine ov_goto (tgt := 49) d_218_12 (by decide) ?_
    exact ov_retv (st := []) d_218_49 rfl ⟨rfl, I151, (by show (h150 90 2) = (h 90 2) ∧ (h150 90 20) = (h 90 20) ∧ (h150 90 22) = (h 90 22) ∧ (h150 90 25) = (h 90 25) ∧ (h150 90 26) = (h 90 26) ∧ (h150 90 28) = (h 90 28) ∧ (h150 90 29) = (h 90 29) ∧ (h150 90 30) = (h 90 30) ∧ (h150 90 34) = (h 90 34) ∧ (h 90 7) ≤ (h150 90 7) ∧ (h150 90 7) ≤ n ∧ (h 90 13) ≤ (h150 90 13) ∧ (h150 90 13) - (h 90 13) ≤ (h150 90 7) - (h 90 7) ∧ (h150 96 340) = (h 96 340) ∧ (h150 96 341) = (h 96 341) ∧ ((h150 90 8) = 0 → 1 ≤ (h 96 342) → 1 ≤ (h150 96 342)) ∧ (1 ≤ (h 96 349) → 1 ≤ (h150 96 349)); omega), E152, E153, E154, E155, E156, E160, E161, E162, E163, E164, E165, E166, (by show ov_MK (h 96) (h 97) (h 98) (h150 96) (h150 97) (h150 98); rw [show h150 97 = h 97 from E157, show h150 98 = h 98 from E158]; exact y146_), (by show ov_WS (h 96) → ov_WS (h150 96); exact y147_), (by show (h150 90 8) = 0 → ov_CS (h 96) (h 97) (h 98) (h 90 13) → ov_CS (h150 96) (h150 97) (h150 98) (h150 90 13); rw [show h150 97 = h 97 from E157, show h150 98 = h 98 from E158]; exact y148_)⟩
abbrev P_Mo_standsAsAlways_90 (F : ov_H × ov_Z) (z : ov_Z) (h : ov_H) (a : Int) : Option ov_V → ov_Z → ov_H → Prop := fun r0 z' h' => r0 = none ∧ ov_N F z' h' ∧ ((h' 90 2) = (h 90 2) ∧ (h' 90 7) = (h 90 7) ∧ (h' 90 8) = (h 90 8) ∧ (h' 90 13) = (h 90 13) ∧ (h' 90 20) = (h 90 20) ∧ (h' 90 22) = (h 90 22) ∧ (h' 90 25) = (h 90 25) ∧ (h' 90 26) = (h 90 26) ∧ (h' 90 28) = (h 90 28) ∧ (h' 90 29) = (h 90 29) ∧ (h' 90 30) = (h 90 30) ∧ (h' 90 34) = (h 90 34) ∧ (h' 96 348) = 0 ∧ (h' 96 342) = 10 ∧ (h' 96 349) = 1) ∧ h' 91 = h 91 ∧ h' 92 = h 92 ∧ h' 93 = h 93 ∧ h' 94 = h 94 ∧ h' 95 = h 95 ∧ h' 97 = h 97 ∧ h' 98 = h 98 ∧ h' 99 = h 99 ∧ h' 100 = h 100 ∧ h' 103 = h 103 ∧ h' 104 = h 104 ∧ h' 105 = h 105 ∧ h' 106 = h 106 ∧ h' 109 = h 109 ∧ h' 114 = h 114 ∧ (∀ j : Int, j < 340 → (h' 96) j = (h 96) j) ∧ (ov_WS (h' 96))
set_option maxHeartbeats 4000000 in
theorem c_Mo_standsAsAlways_90 {u : ov_U} {F : ov_H × ov_Z} {z : ov_Z} {h : ov_H} (d : Nat) (hd : 0 ≤ d) (U : ov_cap u) (I : ov_N F z h) (a : Int) (g_a : ov_g a) (p0 : a = 340) : ov_T u d ov_m203 [ov_r 90, ov_i a] z h (P_Mo_standsAsAlways_90 F z h a) := by
  refine ov_en rfl (Nat.le_of_ble_eq_true rfl) ?_
  show ov_R u d ov_m203 0 [(0, ov_r 90), (1, ov_i a)] [] z h (P_Mo_standsAsAlways_90 F z h a)
  refine ov_blk (ls2 := [(0, ov_r 90), (1, ov_i a), (2, ov_i 0)]) (st2 := []) (pc2 := 2) b_203_0_2 rfl rfl ?_
  have L4 : ∀ (n1 : Nat) (x2 : Int) (z5 : ov_Z) (h6 : ov_H) (I7 : ov_N F z5 h6) (E8 : h6 91 = h 91) (E9 : h6 92 = h 92) (E10 : h6 93 = h 93) (E11 : h6 94 = h 94) (E12 : h6 95 = h 95) (E13 : h6 97 = h 97) (E14 : h6 98 = h 98) (E15 : h6 99 = h 99) (E16 : h6 100 = h 100) (E17 : h6 103 = h 103) (E18 : h6 104 = h 104) (E19 : h6 105 = h 105) (E20 : h6 106 = h 106) (E21 : h6 109 = h 109) (E22 : h6 114 = h 114) (xz : ∀ j : Int, j < 340 → (h6 96) j = (h 96) j) (xy : ∀ j : Int, 340 ≤ j → j < 340 + x2 → (h6 96) j = 0) (q3 : 0 ≤ x2 ∧ x2 ≤ 340 ∧ (h6 90 2) = (h 90 2) ∧ (h6 90 7) = (h 90 7) ∧ (h6 90 8) = (h 90 8) ∧ (h6 90 13) = (h 90 13) ∧ (h6 90 20) = (h 90 20) ∧ (h6 90 22) = (h 90 22) ∧ (h6 90 25) = (h 90 25) ∧ (h6 90 26) = (h 90 26) ∧ (h6 90 28) = (h 90 28) ∧ (h6 90 29) = (h 90 29) ∧ (h6 90 30) = (h 90 30) ∧ (h6 90 34) = (h 90 34)), 340 - x2 < (n1 : Int) → ov_R u d ov_m203 2 [(0, ov_r 90), (1, ov_i a), (2, ov_i x2)] [] z5 h6 (P_Mo_standsAsAlways_90 F z h a) := by
    intro n1
    induction n1 with
    | zero =>
      intro x2 z5 h6 I7 E8 E9 E10 E11 E12 E13 E14 E15 E16 E17 E18 E19 E20 E21 E22 xz xy q3 hn23
      exact absurd hn23 (by omega)
    | succ n1 ih2 =>
      intro x2 z5 h6 I7 E8 E9 E10 E11 E12 E13 E14 E15 E16 E17 E18 E19 E20 E21 E22 xz xy q3 hn23
      refine ov_blk (ls2 := [(0, ov_r 90), (1, ov_i a), (2, ov_i x2)]) (st2 := [ov_i 340, ov_i x2]) (pc2 := 6) b_203_2_2 rfl rfl ?_
      refine ov_icge (tgt := 24) d_203_6 (by decide) (by omega) (by omega) (fun c24 => ?_) (fun c24 => ?_)
      · skip
        refine ov_blk (ls2 := [(0, ov_r 90), (1, ov_i a), (2, ov_i x2)]) (st2 := [ov_r 90]) (pc2 := 25) b_203_24_1 rfl rfl ?_
        refine ov_getf (v := ov_r 96) d_203_25 fl_Mo_81 (zb_90 I7) (zs_90 I7) (congrArg ov_r (rg_90_10 I7)) ?_
        refine ov_blk (ls2 := [(0, ov_r 90), (1, ov_i a), (2, ov_i x2)]) (st2 := [ov_i 10, ov_i (a + 2), ov_r 96]) (pc2 := 33) b_203_28_4 rfl rfl ?_
        refine ov_iast d_203_33 (zb_96 I7) (zs_96 I7) (by omega) ?_
        have I25 := ua_96 (k := (a + 2)) (x := 10) I7 (by refine ⟨?_, ?_, ?_, ?_, ?_, ?_, ?_, ?_, ?_, ?_, ?_, ?_, ?_, ?_, ?_, ?_, ?_, ?_, ?_, ?_, ?_, ?_, ?_, ?_, ?_, ?_, ?_, ?_, ?_⟩ <;> omega)
        refine ov_blk (ls2 := [(0, ov_r 90), (1, ov_i a), (2, ov_i x2)]) (st2 := [ov_r 90]) (pc2 := 35) b_203_34_1 rfl rfl ?_
        refine ov_getf (v := ov_r 96) d_203_35 fl_Mo_81 (zb_90 I25) (zs_90 I25) (congrArg ov_r (rg_90_10 I25)) ?_
        refine ov_blk (ls2 := [(0, ov_r 90), (1, ov_i a), (2, ov_i x2)]) (st2 := [ov_i (-1), ov_i (a + 3), ov_r 96]) (pc2 := 42) b_203_38_4 rfl rfl ?_
        refine ov_iast d_203_42 (zb_96 I25) (zs_96 I25) (by omega) ?_
        have I26 := ua_96 (k := (a + 3)) (x := (-1)) I25 (by refine ⟨?_, ?_, ?_, ?_, ?_, ?_, ?_, ?_, ?_, ?_, ?_, ?_, ?_, ?_, ?_, ?_, ?_, ?_, ?_, ?_, ?_, ?_, ?_, ?_, ?_, ?_, ?_, ?_, ?_⟩ <;> omega)
        refine ov_blk (ls2 := [(0, ov_r 90), (1, ov_i a), (2, ov_i x2)]) (st2 := [ov_r 90]) (pc2 := 44) b_203_43_1 rfl rfl ?_
        refine ov_getf (v := ov_r 96) d_203_44 fl_Mo_81 (zb_90 I26) (zs_90 I26) (congrArg ov_r (rg_90_10 I26)) ?_
        refine ov_blk (ls2 := [(0, ov_r 90), (1, ov_i a), (2, ov_i x2)]) (st2 := [ov_i (-1), ov_i (a + 4), ov_r 96]) (pc2 := 51) b_203_47_4 rfl rfl ?_
        refine ov_iast d_203_51 (zb_96 I26) (zs_96 I26) (by omega) ?_
        have I27 := ua_96 (k := (a + 4)) (x := (-1)) I26 (by refine ⟨?_, ?_, ?_, ?_, ?_, ?_, ?_, ?_, ?_, ?_, ?_, ?_, ?_, ?_, ?_, ?_, ?_, ?_, ?_, ?_, ?_, ?_, ?_, ?_, ?_, ?_, ?_, ?_, ?_⟩ <;> omega)
        refine ov_blk (ls2 := [(0, ov_r 90), (1, ov_i a), (2, ov_i x2)]) (st2 := [ov_r 90]) (pc2 := 53) b_203_52_1 rfl rfl ?_
        refine ov_getf (v := ov_r 96) d_203_53 fl_Mo_81 (zb_90 I27) (zs_90 I27) (congrArg ov_r (rg_90_10 I27)) ?_
        refine ov_blk (ls2 := [(0, ov_r 90), (1, ov_i a), (2, ov_i x2)]) (st2 := [ov_i 1, ov_i (a + 9), ov_r 96]) (pc2 := 61) b_203_56_4 rfl rfl ?_
        refine ov_iast d_203_61 (zb_96 I27) (zs_96 I27) (by omega) ?_
        have I28 := ua_96 (k := (a + 9)) (x := 1) I27 (by refine ⟨?_, ?_, ?_, ?_, ?_, ?_, ?_, ?_, ?_, ?_, ?_, ?_, ?_, ?_, ?_, ?_, ?_, ?_, ?_, ?_, ?_, ?_, ?_, ?_, ?_, ?_, ?_, ?_, ?_⟩ <;> omega)
        have z348 := xy 348 (by decide) (by omega)
        have y348 : (ov_up (ov_up (ov_up (ov_up h6 96 (a + 2) 10) 96 (a + 3) (-1)) 96 (a + 4) (-1)) 96 (a + 9) 1) 96 348 = 0 := by rw [ov_up_j (by omega)]; rw [ov_up_j (by omega)]; rw [ov_up_j (by omega)]; rw [ov_up_j (by omega)]; exact z348
        have y342 : (ov_up (ov_up (ov_up (ov_up h6 96 (a + 2) 10) 96 (a + 3) (-1)) 96 (a + 4) (-1)) 96 (a + 9) 1) 96 342 = 10 := by rw [ov_up_j (by omega)]; rw [ov_up_j (by omega)]; rw [ov_up_j (by omega)]; rw [show (342 : Int) = a + 2 by omega, ov_up_row, ov_rs_eq]
        have y349 : (ov_up (ov_up (ov_up (ov_up h6 96 (a + 2) 10) 96 (a + 3) (-1)) 96 (a + 4) (-1)) 96 (a + 9) 1) 96 349 = 1 := by rw [show (349 : Int) = a + 9 by omega, ov_up_row, ov_rs_eq]
        exact ov_retv (st := []) d_203_62 rfl ⟨rfl, I28, (by show (h6 90 2) = (h 90 2) ∧ (h6 90 7) = (h 90 7) ∧ (h6 90 8) = (h 90 8) ∧ (h6 90 13) = (h 90 13) ∧ (h6 90 20) = (h 90 20) ∧ (h6 90 22) = (h 90 22) ∧ (h6 90 25) = (h 90 25) ∧ (h6 90 26) = (h 90 26) ∧ (h6 90 28) = (h 90 28) ∧ (h6 90 29) = (h 90 29) ∧ (h6 90 30) = (h 90 30) ∧ (h6 90 34) = (h 90 34) ∧ ((ov_up (ov_up (ov_up (ov_up h6 96 (a + 2) 10) 96 (a + 3) (-1)) 96 (a + 4) (-1)) 96 (a + 9) 1) 96 348) = 0 ∧ ((ov_up (ov_up (ov_up (ov_up h6 96 (a + 2) 10) 96 (a + 3) (-1)) 96 (a + 4) (-1)) 96 (a + 9) 1) 96 342) = 10 ∧ ((ov_up (ov_up (ov_up (ov_up h6 96 (a + 2) 10) 96 (a + 3) (-1)) 96 (a + 4) (-1)) 96 (a + 9) 1) 96 349) = 1; omega), E8, E9, E10, E11, E12, E13, E14, E15, E16, E17, E18, E19, E20, E21, E22, (fun j hj => by show (ov_up (ov_up (ov_up (ov_up h6 96 (a + 2) 10) 96 (a + 3) (-1)) 96 (a + 4) (-1)) 96 (a + 9) 1) 96 j = _; rw [ov_up_j (by omega)]; rw [ov_up_j (by omega)]; rw [ov_up_j (by omega)]; rw [ov_up_j (by omega)]; exact xz j hj), (fun c h0 h1 h2 => by exfalso; have q : (ov_up (ov_up (ov_up (ov_up h6 96 (a + 2) 10) 96 (a + 3) (-1)) 96 (a + 4) (-1)) 96 (a + 9) 1) 96 (350 + 4 * c) = 0 := (by rw [ov_up_j (by omega)]; rw [ov_up_j (by omega)]; rw [ov_up_j (by omega)]; rw [ov_up_j (by omega)]; exact xy _ (by omega) (by omega)); omega)⟩
      · skip
        refine ov_blk (ls2 := [(0, ov_r 90), (1, ov_i a), (2, ov_i x2)]) (st2 := [ov_r 90]) (pc2 := 10) b_203_9_1 rfl rfl ?_
        refine ov_getf (v := ov_r 96) d_203_10 fl_Mo_81 (zb_90 I7) (zs_90 I7) (congrArg ov_r (rg_90_10 I7)) ?_
        refine ov_blk (ls2 := [(0, ov_r 90), (1, ov_i a), (2, ov_i x2)]) (st2 := [ov_i 0, ov_i (a + x2), ov_r 96]) (pc2 := 17) b_203_13_4 rfl rfl ?_
        refine ov_iast d_203_17 (zb_96 I7) (zs_96 I7) (by omega) ?_
        have I29 := ua_96 (k := (a + x2)) (x := 0) I7 (by refine ⟨?_, ?_, ?_, ?_, ?_, ?_, ?_, ?_, ?_, ?_, ?_, ?_, ?_, ?_, ?_, ?_, ?_, ?_, ?_, ?_, ?_, ?_, ?_, ?_, ?_, ?_, ?_, ?_, ?_⟩ <;> omega)
        refine ov_blk (ls2 := [(0, ov_r 90), (1, ov_i a), (2, ov_i (x2 + 1))]) (st2 := []) (pc2 := 21) b_203_18_1 rfl rfl ?_
        refine ov_goto (tgt := 2) d_203_21 (by decide) ?_
        exact ih2 (x2 + 1) _ _ I29 E8 E9 E10 E11 E12 E13 E14 E15 E16 E17 E18 E19 E20 E21 E22 (fun j hj => by rw [ov_up_j (by omega)]; exact xz j hj) (fun j h1 h2 => if e : j = a + x2 then (by rw [e, ov_up_row, ov_rs_eq]) else (by rw [ov_up_j e]; exact xy j h1 (by omega))) (by show 0 ≤ (x2 + 1) ∧ (x2 + 1) ≤ 340 ∧ (h6 90 2) = (h 90 2) ∧ (h6 90 7) = (h 90 7) ∧ (h6 90 8) = (h 90 8) ∧ (h6 90 13) = (h 90 13) ∧ (h6 90 20) = (h 90 20) ∧ (h6 90 22) = (h 90 22) ∧ (h6 90 25) = (h 90 25) ∧ (h6 90 26) = (h 90 26) ∧ (h6 90 28) = (h 90 28) ∧ (h6 90 29) = (h 90 29) ∧ (h6 90 30) = (h 90 30) ∧ (h6 90 34) = (h 90 34); omega) (by omega)
  exact L4 341 0 _ _ I rfl rfl rfl rfl rfl rfl rfl rfl rfl rfl rfl rfl rfl rfl rfl (fun j _ => rfl) (fun j h1 h2 => by omega) (by show 0 ≤ 0 ∧ 0 ≤ 340 ∧ (h 90 2) = (h 90 2) ∧ (h 90 7) = (h 90 7) ∧ (h 90 8) = (h 90 8) ∧ (h 90 13) = (h 90 13) ∧ (h 90 20) = (h 90 20) ∧ (h 90 22) = (h 90 22) ∧ (h 90 25) = (h 90 25) ∧ (h 90 26) = (h 90 26) ∧ (h 90 28) = (h 90 28) ∧ (h 90 29) = (h 90 29) ∧ (h 90 30) = (h 90 30) ∧ (h 90 34) = (h 90 34); omega) (by omega)

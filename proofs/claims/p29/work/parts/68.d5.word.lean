theorem b_220_0_2 : ov_ds ov_m220.2.1 0 [.iconst (-1), .istore_n 3] = true := by decide +kernel
theorem b_220_2_2 : ov_ds ov_m220.2.1 2 [.iconst 0, .istore 4] = true := by decide +kernel
theorem b_220_27_2 : ov_ds ov_m220.2.1 27 [.iload_n 3, .istore_n 3] = true := by decide +kernel
theorem b_220_29_1 : ov_ds ov_m220.2.1 29 [.iinc 4 1] = true := by decide +kernel
theorem b_220_28_1 : ov_ds ov_m220.2.1 28 [.istore_n 3] = true := by decide +kernel
abbrev P_fMo_takeAfter_90 (F : ov_H × ov_Z) (z : ov_Z) (h : ov_H) (t : Int → Int) (m : Int) (N : Int) (p : Int) (wv : Int) (c : Int) (a : Int) (b : Int) : Option ov_V → ov_Z → ov_H → Prop := fun r0 z' h' => ∃ r : Int, r0 = some (ov_i r) ∧ ov_N F z' h' ∧ (∀ a : Int, a ≠ 90 → h' a = h a) ∧ (∀ k : Int, k ≠ 7 → k ≠ 8 → (h' 90) k = (h 90) k) ∧ (((r = 0 ∧ (h 90 8) ≠ 0 ∧ (h' 90 8) = (h 90 8) ∧ (h' 90 7) = (h 90 7) ∧ (h' 93 ((h' 90 7))) = p)) ∨ ((r = 0 ∧ (h 90 8) = 0 ∧ pt_iw t m p wv = 0 ∧ (h' 90 8) = 1 + 16 * p ∧ 1 ≤ (h' 90 8) ∧ (h' 90 7) = (h 90 7) ∧ (h' 93 ((h' 90 7))) = p)) ∨ ((r = 0 ∧ (h 90 8) = 0 ∧ pt_iw t m p wv = 1 ∧ (h' 90 8) = pt_fN t m a b (pt_nt t m p) ∧ 1 ≤ (h' 90 8) ∧ (h' 90 7) = (h 90 7) + 1 ∧ (h' 90 7) ≤ N ∧ (h' 93 ((h' 90 7))) = pt_nt t m p)) ∨ (((h 90 8) = 0 ∧ pt_iw t m p wv = 1 ∧ (h' 90 8) = 0 ∧ pt_fN t m a b (pt_nt t m p) = 0 ∧ a ≤ r ∧ r ≤ b ∧ r = pt_nm t m (pt_nt t m p) ∧ 0 ≤ r ∧ r ≤ 9999 ∧ (h' 90 7) = (h 90 7) + 2 ∧ (h' 90 7) ≤ N ∧ (h' 93 ((h' 90 7))) = pt_nt t m (pt_nt t m p))))
set_option maxHeartbeats 4000000 in
theorem c_fMo_takeAfter_90 {u : ov_U} {F : ov_H × ov_Z} (t : Int → Int) (m : Int) (N : Int) (p : Int) (wv : Int) {z : ov_Z} {h : ov_H} (d : Nat) (hd : 3 ≤ d) (U : ov_cap u) (I : ov_N F z h) (c : Int) (a : Int) (b : Int) (g_c : ov_g c) (g_a : ov_g a) (g_b : ov_g b) (p0 : 0 ≤ (h 90 7) ∧ (h 90 7) ≤ N) (p1 : (h 93 ((h 90 7))) = p) (p2 : 0 ≤ (h 90 8)) (p3 : 0 ≤ c ∧ c ≤ 21) (mt : pt_MT t m (h 92) (h 93) (h 94) N) (wd : pt_WD (h 95)) (ew : pt_C c = wv) : ov_T u d ov_m221 [ov_r 90, ov_i c, ov_i a, ov_i b] z h (P_fMo_takeAfter_90 F z h t m N p wv c a b) := by
  refine ov_en rfl (Nat.le_of_ble_eq_true rfl) ?_
  show ov_R u d ov_m221 0 [(0, ov_r 90), (1, ov_i c), (2, ov_i a), (3, ov_i b)] [] z h (P_fMo_takeAfter_90 F z h t m N p wv c a b)
  have ma := pt_MT_at mt (k := h 90 7) (by omega)
  rw [p1] at ma
  have mp := ma.2.1
  have m2 := ma.2.2.1
  have m3 := ma.2.2.2
  have mc := pt_cm_f (t := t) (m := m) (p := p)
  have mN := mt.1.2.1
  clear ma
  refine ov_blk (ls2 := [(0, ov_r 90), (1, ov_i c), (2, ov_i a), (3, ov_i b)]) (st2 := [ov_i c, ov_r 90]) (pc2 := 2) b_221_0_2 rfl rfl ?_
  refine ov_cV (as := [ov_i c]) (st := []) (d2 := d - 1) d_221_2 lk_Mo_195 rfl (Nat.le_of_ble_eq_true rfl) (c := 1) (zb_90 I) (zs_90 I) ⟨by decide, rfl⟩ (by omega) (c_fMo_takeWord_90 t m N p wv (d - 1) (by omega) U I c (by omega) (by show 0 ≤ (h 90 7) ∧ (h 90 7) ≤ N; omega) (by show (h 93 ((h 90 7))) = p; omega) (by show 0 ≤ (h 90 8); omega) (by show 0 ≤ c ∧ c ≤ 21; omega) mt wd ew) ?_
  rintro _ z1 h2 ⟨rfl, I3, y4, y5, y6⟩
  have E7 : h2 92 = h 92 := Eq.trans (y4 92 (by decide)) (show h 92 = h 92 from rfl)
  have E8 : h2 93 = h 93 := Eq.trans (y4 93 (by decide)) (show h 93 = h 93 from rfl)
  have E9 : h2 94 = h 94 := Eq.trans (y4 94 (by decide)) (show h 94 = h 94 from rfl)
  have E10 : h2 95 = h 95 := Eq.trans (y4 95 (by decide)) (show h 95 = h 95 from rfl)
  have fr11 : ∀ a : Int, a ≠ 90 → h2 a = h a := fun a ca => Eq.trans (y4 a (by omega)) rfl
  have y5_ : ∀ k : Int, k ≠ 7 → k ≠ 8 → (h2 90) k = (h 90) k := y5
  have rk12 : ∀ k : Int, k ≠ 7 → k ≠ 8 → h2 90 k = h 90 k := fun k n0 n1 => Eq.trans (y5_ k n0 n1) rfl
  have g13 : h2 90 2 = (h 90 2) := y5_ 2 (by decide) (by decide)
  have g14 : h2 90 3 = (h 90 3) := y5_ 3 (by decide) (by decide)
  have g15 : h2 90 13 = (h 90 13) := y5_ 13 (by decide) (by decide)
  have g16 : h2 90 15 = (h 90 15) := y5_ 15 (by decide) (by decide)
  rcases y6 with f17 | f18 | f19
  · skip
    show ov_R u d ov_m221 5 [(0, ov_r 90), (1, ov_i c), (2, ov_i a), (3, ov_i b)] [] z1 h2 (P_fMo_takeAfter_90 F z h t m N p wv c a b)
    have f20 : (h 90 8) ≠ 0 ∧ (h2 90 8) = (h 90 8) ∧ (h2 90 7) = (h 90 7) ∧ (h2 93 ((h2 90 7))) = p := f17
    clear f17
    refine ov_blk (ls2 := [(0, ov_r 90), (1, ov_i c), (2, ov_i a), (3, ov_i b)]) (st2 := [ov_i b, ov_i a, ov_r 90]) (pc2 := 8) b_221_5_3 rfl rfl ?_
    have cf21 : h2 93 ((h2 90 7)) = h 93 ((h2 90 7)) := congrFun E8 ((h2 90 7))
    refine ov_cV (as := [ov_i a, ov_i b]) (st := []) (d2 := d - 1) d_221_8 lk_Mo_198 rfl (Nat.le_of_ble_eq_true rfl) (c := 1) (zb_90 I3) (zs_90 I3) ⟨by decide, rfl⟩ (by omega) (c_fMo_takeNumber_90 t m N p (d - 1) (by omega) U I3 a b (by omega) (by omega) (by show 0 ≤ (h2 90 7) ∧ (h2 90 7) ≤ N; omega) (by show (h2 93 ((h2 90 7))) = p; omega) (by show 0 ≤ (h2 90 8); omega) (by rw [show h2 92 = h 92 from E7, show h2 93 = h 93 from E8, show h2 94 = h 94 from E9]; exact mt)) ?_
    rintro _ z23 h24 ⟨v22, rfl, I25, y26, y27, y28⟩
    have E29 : h24 92 = h 92 := Eq.trans (y26 92 (by decide)) (show h2 92 = h 92 from E7)
    have E30 : h24 93 = h 93 := Eq.trans (y26 93 (by decide)) (show h2 93 = h 93 from E8)
    have E31 : h24 94 = h 94 := Eq.trans (y26 94 (by decide)) (show h2 94 = h 94 from E9)
    have E32 : h24 95 = h 95 := Eq.trans (y26 95 (by decide)) (show h2 95 = h 95 from E10)
    have fr33 : ∀ a : Int, a ≠ 90 → h24 a = h a := fun a ca => Eq.trans (y26 a (by omega)) (fr11 a ca)
    have y27_ : ∀ k : Int, k ≠ 7 → k ≠ 8 → (h24 90) k = (h2 90) k := y27
    have rk34 : ∀ k : Int, k ≠ 7 → k ≠ 8 → h24 90 k = h 90 k := fun k n0 n1 => Eq.trans (y27_ k n0 n1) (rk12 k n0 n1)
    have g35 : h24 90 2 = (h2 90 2) := y27_ 2 (by decide) (by decide)
    have g36 : h24 90 3 = (h2 90 3) := y27_ 3 (by decide) (by decide)
    have g37 : h24 90 13 = (h2 90 13) := y27_ 13 (by decide) (by decide)
    have g38 : h24 90 15 = (h2 90 15) := y27_ 15 (by decide) (by decide)
    rcases y28 with f39 | f40 | f41
    · skip
      show ov_R u d ov_m221 11 [(0, ov_r 90), (1, ov_i c), (2, ov_i a), (3, ov_i b)] [ov_i v22] z23 h24 (P_fMo_takeAfter_90 F z h t m N p wv c a b)
      have f42 : v22 = 0 ∧ (h2 90 8) ≠ 0 ∧ (h24 90 8) = (h2 90 8) ∧ (h24 90 7) = (h2 90 7) ∧ (h24 93 ((h24 90 7))) = p := f39
      clear f39
      exact ov_reti (st := []) d_221_11 rfl ⟨_, rfl, I25, (fun a ca => (fr33 a ca)), (fun k n0 n1 => (rk34 k n0 n1)), (Or.inl (by show v22 = 0 ∧ (h 90 8) ≠ 0 ∧ (h24 90 8) = (h 90 8) ∧ (h24 90 7) = (h 90 7) ∧ (h24 93 ((h24 90 7))) = p; omega))⟩
    · skip
      show ov_R u d ov_m221 11 [(0, ov_r 90), (1, ov_i c), (2, ov_i a), (3, ov_i b)] [ov_i v22] z23 h24 (P_fMo_takeAfter_90 F z h t m N p wv c a b)
      have f43 : v22 = 0 ∧ (h2 90 8) = 0 ∧ (h24 90 8) = pt_fN t m a b p ∧ 1 ≤ (h24 90 8) ∧ (h24 90 7) = (h2 90 7) ∧ (h24 93 ((h24 90 7))) = p := f40
      clear f40
      exact ov_reti (st := []) d_221_11 rfl ⟨_, rfl, I25, (fun a ca => (fr33 a ca)), (fun k n0 n1 => (rk34 k n0 n1)), (Or.inr (Or.inl (by show v22 = 0 ∧ (h 90 8) = 0 ∧ pt_iw t m p wv = 0 ∧ (h24 90 8) = 1 + 16 * p ∧ 1 ≤ (h24 90 8) ∧ (h24 90 7) = (h 90 7) ∧ (h24 93 ((h24 90 7))) = p; omega)))⟩
    · skip
      show ov_R u d ov_m221 11 [(0, ov_r 90), (1, ov_i c), (2, ov_i a), (3, ov_i b)] [ov_i v22] z23 h24 (P_fMo_takeAfter_90 F z h t m N p wv c a b)
      have f44 : (h2 90 8) = 0 ∧ (h24 90 8) = 0 ∧ pt_fN t m a b p = 0 ∧ pt_ty t m p = 3 ∧ a ≤ v22 ∧ v22 ≤ b ∧ v22 = pt_nm t m p ∧ 0 ≤ v22 ∧ v22 ≤ 9999 ∧ (h24 90 7) = (h2 90 7) + 1 ∧ (h24 90 7) ≤ N ∧ (h24 93 ((h24 90 7))) = pt_nt t m p := f41
      clear f41
      exact ov_reti (st := []) d_221_11 rfl ⟨_, rfl, I25, (fun a ca => (fr33 a ca)), (fun k n0 n1 => (rk34 k n0 n1)), (Or.inr (Or.inr (Or.inr (by show (h 90 8) = 0 ∧ pt_iw t m p wv = 1 ∧ (h24 90 8) = 0 ∧ pt_fN t m a b (pt_nt t m p) = 0 ∧ a ≤ v22 ∧ v22 ≤ b ∧ v22 = pt_nm t m (pt_nt t m p) ∧ 0 ≤ v22 ∧ v22 ≤ 9999 ∧ (h24 90 7) = (h 90 7) + 2 ∧ (h24 90 7) ≤ N ∧ (h24 93 ((h24 90 7))) = pt_nt t m (pt_nt t m p); omega))))⟩
  · skip
    show ov_R u d ov_m221 5 [(0, ov_r 90), (1, ov_i c), (2, ov_i a), (3, ov_i b)] [] z1 h2 (P_fMo_takeAfter_90 F z h t m N p wv c a b)
    have f45 : (h 90 8) = 0 ∧ pt_iw t m p wv = 0 ∧ (h2 90 8) = 1 + 16 * p ∧ 1 ≤ (h2 90 8) ∧ (h2 90 7) = (h 90 7) ∧ (h2 93 ((h2 90 7))) = p := f18
    clear f18
    refine ov_blk (ls2 := [(0, ov_r 90), (1, ov_i c), (2, ov_i a), (3, ov_i b)]) (st2 := [ov_i b, ov_i a, ov_r 90]) (pc2 := 8) b_221_5_3 rfl rfl ?_
    have cf46 : h2 93 ((h2 90 7)) = h 93 ((h2 90 7)) := congrFun E8 ((h2 90 7))
    refine ov_cV (as := [ov_i a, ov_i b]) (st := []) (d2 := d - 1) d_221_8 lk_Mo_198 rfl (Nat.le_of_ble_eq_true rfl) (c := 1) (zb_90 I3) (zs_90 I3) ⟨by decide, rfl⟩ (by omega) (c_fMo_takeNumber_90 t m N p (d - 1) (by omega) U I3 a b (by omega) (by omega) (by show 0 ≤ (h2 90 7) ∧ (h2 90 7) ≤ N; omega) (by show (h2 93 ((h2 90 7))) = p; omega) (by show 0 ≤ (h2 90 8); omega) (by rw [show h2 92 = h 92 from E7, show h2 93 = h 93 from E8, show h2 94 = h 94 from E9]; exact mt)) ?_
    rintro _ z48 h49 ⟨v47, rfl, I50, y51, y52, y53⟩
    have E54 : h49 92 = h 92 := Eq.trans (y51 92 (by decide)) (show h2 92 = h 92 from E7)
    have E55 : h49 93 = h 93 := Eq.trans (y51 93 (by decide)) (show h2 93 = h 93 from E8)
    have E56 : h49 94 = h 94 := Eq.trans (y51 94 (by decide)) (show h2 94 = h 94 from E9)
    have E57 : h49 95 = h 95 := Eq.trans (y51 95 (by decide)) (show h2 95 = h 95 from E10)
    have fr58 : ∀ a : Int, a ≠ 90 → h49 a = h a := fun a ca => Eq.trans (y51 a (by omega)) (fr11 a ca)
    have y52_ : ∀ k : Int, k ≠ 7 → k ≠ 8 → (h49 90) k = (h2 90) k := y52
    have rk59 : ∀ k : Int, k ≠ 7 → k ≠ 8 → h49 90 k = h 90 k := fun k n0 n1 => Eq.trans (y52_ k n0 n1) (rk12 k n0 n1)
    have g60 : h49 90 2 = (h2 90 2) := y52_ 2 (by decide) (by decide)
    have g61 : h49 90 3 = (h2 90 3) := y52_ 3 (by decide) (by decide)
    have g62 : h49 90 13 = (h2 90 13) := y52_ 13 (by decide) (by decide)
    have g63 : h49 90 15 = (h2 90 15) := y52_ 15 (by decide) (by decide)
    rcases y53 with f64 | f65 | f66
    · skip
      show ov_R u d ov_m221 11 [(0, ov_r 90), (1, ov_i c), (2, ov_i a), (3, ov_i b)] [ov_i v47] z48 h49 (P_fMo_takeAfter_90 F z h t m N p wv c a b)
      have f67 : v47 = 0 ∧ (h2 90 8) ≠ 0 ∧ (h49 90 8) = (h2 90 8) ∧ (h49 90 7) = (h2 90 7) ∧ (h49 93 ((h49 90 7))) = p := f64
      clear f64
      exact ov_reti (st := []) d_221_11 rfl ⟨_, rfl, I50, (fun a ca => (fr58 a ca)), (fun k n0 n1 => (rk59 k n0 n1)), (Or.inr (Or.inl (by show v47 = 0 ∧ (h 90 8) = 0 ∧ pt_iw t m p wv = 0 ∧ (h49 90 8) = 1 + 16 * p ∧ 1 ≤ (h49 90 8) ∧ (h49 90 7) = (h 90 7) ∧ (h49 93 ((h49 90 7))) = p; omega)))⟩
    · omega
    · omega
  · skip
    show ov_R u d ov_m221 5 [(0, ov_r 90), (1, ov_i c), (2, ov_i a), (3, ov_i b)] [] z1 h2 (P_fMo_takeAfter_90 F z h t m N p wv c a b)
    have f68 : (h 90 8) = 0 ∧ pt_iw t m p wv = 1 ∧ (h2 90 8) = 0 ∧ (h2 90 7) = (h 90 7) + 1 ∧ (h2 90 7) ≤ N ∧ (h2 93 ((h2 90 7))) = pt_nt t m p := f19
    clear f19
    refine ov_blk (ls2 := [(0, ov_r 90), (1, ov_i c), (2, ov_i a), (3, ov_i b)]) (st2 := [ov_i b, ov_i a, ov_r 90]) (pc2 := 8) b_221_5_3 rfl rfl ?_
    have cf69 : h2 93 ((h2 90 7)) = h 93 ((h2 90 7)) := congrFun E8 ((h2 90 7))
    refine ov_cV (as := [ov_i a, ov_i b]) (st := []) (d2 := d - 1) d_221_8 lk_Mo_198 rfl (Nat.le_of_ble_eq_true rfl) (c := 1) (zb_90 I3) (zs_90 I3) ⟨by decide, rfl⟩ (by omega) (c_fMo_takeNumber_90 t m N (pt_nt t m p) (d - 1) (by omega) U I3 a b (by omega) (by omega) (by show 0 ≤ (h2 90 7) ∧ (h2 90 7) ≤ N; omega) (by show (h2 93 ((h2 90 7))) = (pt_nt t m p); omega) (by show 0 ≤ (h2 90 8); omega) (by rw [show h2 92 = h 92 from E7, show h2 93 = h 93 from E8, show h2 94 = h 94 from E9]; exact mt)) ?_
    rintro _ z71 h72 ⟨v70, rfl, I73, y74, y75, y76⟩
    have E77 : h72 92 = h 92 := Eq.trans (y74 92 (by decide)) (show h2 92 = h 92 from E7)
    have E78 : h72 93 = h 93 := Eq.trans (y74 93 (by decide)) (show h2 93 = h 93 from E8)
    have E79 : h72 94 = h 94 := Eq.trans (y74 94 (by decide)) (show h2 94 = h 94 from E9)
    have E80 : h72 95 = h 95 := Eq.trans (y74 95 (by decide)) (show h2 95 = h 95 from E10)
    have fr81 : ∀ a : Int, a ≠ 90 → h72 a = h a := fun a ca => Eq.trans (y74 a (by omega)) (fr11 a ca)
    have y75_ : ∀ k : Int, k ≠ 7 → k ≠ 8 → (h72 90) k = (h2 90) k := y75
    have rk82 : ∀ k : Int, k ≠ 7 → k ≠ 8 → h72 90 k = h 90 k := fun k n0 n1 => Eq.trans (y75_ k n0 n1) (rk12 k n0 n1)
    have g83 : h72 90 2 = (h2 90 2) := y75_ 2 (by decide) (by decide)
    have g84 : h72 90 3 = (h2 90 3) := y75_ 3 (by decide) (by decide)
    have g85 : h72 90 13 = (h2 90 13) := y75_ 13 (by decide) (by decide)
    have g86 : h72 90 15 = (h2 90 15) := y75_ 15 (by decide) (by decide)
    rcases y76 with f87 | f88 | f89
    · omega
    · skip
      show ov_R u d ov_m221 11 [(0, ov_r 90), (1, ov_i c), (2, ov_i a), (3, ov_i b)] [ov_i v70] z71 h72 (P_fMo_takeAfter_90 F z h t m N p wv c a b)
      have f90 : v70 = 0 ∧ (h2 90 8) = 0 ∧ (h72 90 8) = pt_fN t m a b (pt_nt t m p) ∧ 1 ≤ (h72 90 8) ∧ (h72 90 7) = (h2 90 7) ∧ (h72 93 ((h72 90 7))) = (pt_nt t m p) := f88
      clear f88
      exact ov_reti (st := []) d_221_11 rfl ⟨_, rfl, I73, (fun a ca => (fr81 a ca)), (fun k n0 n1 => (rk82 k n0 n1)), (Or.inr (Or.inr (Or.inl (by show v70 = 0 ∧ (h 90 8) = 0 ∧ pt_iw t m p wv = 1 ∧ (h72 90 8) = pt_fN t m a b (pt_nt t m p) ∧ 1 ≤ (h72 90 8) ∧ (h72 90 7) = (h 90 7) + 1 ∧ (h72 90 7) ≤ N ∧ (h72 93 ((h72 90 7))) = pt_nt t m p; omega))))⟩
    · skip
      show ov_R u d ov_m221 11 [(0, ov_r 90), (1, ov_i c), (2, ov_i a), (3, ov_i b)] [ov_i v70] z71 h72 (P_fMo_takeAfter_90 F z h t m N p wv c a b)
      have f91 : (h2 90 8) = 0 ∧ (h72 90 8) = 0 ∧ pt_fN t m a b (pt_nt t m p) = 0 ∧ pt_ty t m (pt_nt t m p) = 3 ∧ a ≤ v70 ∧ v70 ≤ b ∧ v70 = pt_nm t m (pt_nt t m p) ∧ 0 ≤ v70 ∧ v70 ≤ 9999 ∧ (h72 90 7) = (h2 90 7) + 1 ∧ (h72 90 7) ≤ N ∧ (h72 93 ((h72 90 7))) = pt_nt t m (pt_nt t m p) := f89
      clear f89
      exact ov_reti (st := []) d_221_11 rfl ⟨_, rfl, I73, (fun a ca => (fr81 a ca)), (fun k n0 n1 => (rk82 k n0 n1)), (Or.inr (Or.inr (Or.inr (by show (h 90 8) = 0 ∧ pt_iw t m p wv = 1 ∧ (h72 90 8) = 0 ∧ pt_fN t m a b (pt_nt t m p) = 0 ∧ a ≤ v70 ∧ v70 ≤ b ∧ v70 = pt_nm t m (pt_nt t m p) ∧ 0 ≤ v70 ∧ v70 ≤ 9999 ∧ (h72 90 7) = (h 90 7) + 2 ∧ (h72 90 7) ≤ N ∧ (h72 93 ((h72 90 7))) = pt_nt t m (pt_nt t m p); omega))))⟩
abbrev P_fMo_wordHere_90 (F : ov_H × ov_Z) (z : ov_Z) (h : ov_H) (t : Int → Int) (m : Int) (N : Int) (p : Int) (a : Int) (b : Int) : Option ov_V → ov_Z → ov_H → Prop := fun r0 z' h' => ∃ r : Int, r0 = some (ov_i r) ∧ z = z' ∧ h = h' ∧ (((h 90 8) ≠ 0 ∧ r = -1 ∨ (h 90 8) = 0 ∧ r = pt_wh t m p a (Int.toNat b)) ∧ -1 ≤ r ∧ r ≤ b)
set_option maxHeartbeats 4000000 in
theorem c_fMo_wordHere_90 {u : ov_U} {F : ov_H × ov_Z} (t : Int → Int) (m : Int) (N : Int) (p : Int) {z : ov_Z} {h : ov_H} (d : Nat) (hd : 1 ≤ d) (U : ov_cap u) (I : ov_N F z h) (a : Int) (b : Int) (g_a : ov_g a) (g_b : ov_g b) (p0 : 0 ≤ (h 90 7) ∧ (h 90 7) ≤ N) (p1 : (h 93 ((h 90 7))) = p) (p2 : 0 ≤ (h 90 8)) (p3 : 0 ≤ a ∧ 0 ≤ b ∧ a + b ≤ 22) (mt : pt_MT t m (h 92) (h 93) (h 94) N) (wd : pt_WD (h 95)) : ov_T u d ov_m220 [ov_r 90, ov_i a, ov_i b] z h (P_fMo_wordHere_90 F z h t m N p a b) := by
  refine ov_en rfl (Nat.le_of_ble_eq_true rfl) ?_
  show ov_R u d ov_m220 0 [(0, ov_r 90), (1, ov_i a), (2, ov_i b)] [] z h (P_fMo_wordHere_90 F z h t m N p a b)
  have ma := pt_MT_at mt (k := h 90 7) (by omega)
  rw [p1] at ma
  have mp := ma.2.1
  have m2 := ma.2.2.1
  have m3 := ma.2.2.2
  have mc := pt_cm_f (t := t) (m := m) (p := p)
  have mN := mt.1.2.1
  clear ma
  refine ov_blk (ls2 := [(0, ov_r 90), (1, ov_i a), (2, ov_i b), (3, ov_i (-1))]) (st2 := []) (pc2 := 2) b_220_0_2 rfl rfl ?_
  have w0 : pt_wh t m p a (Int.toNat 0) = -1 := rfl
  refine ov_blk (ls2 := [(0, ov_r 90), (1, ov_i a), (2, ov_i b), (3, ov_i (-1)), (4, ov_i 0)]) (st2 := []) (pc2 := 5) b_220_2_2 rfl rfl ?_
  have L4 : ∀ (n1 : Nat) (x3 : Int) (x4 : Int) (q3 : 0 ≤ x4 ∧ x4 ≤ b ∧ -1 ≤ x3 ∧ x3 ≤ x4 ∧ ((h 90 8) ≠ 0 ∧ x3 = -1 ∨ (h 90 8) = 0 ∧ x3 = pt_wh t m p a (Int.toNat x4))), b - x4 < (n1 : Int) → ov_R u d ov_m220 5 [(0, ov_r 90), (1, ov_i a), (2, ov_i b), (3, ov_i x3), (4, ov_i x4)] [] z h (P_fMo_wordHere_90 F z h t m N p a b) := by
    intro n1
    induction n1 with
    | zero =>
      intro x3 x4 q3 hn5
      exact absurd hn5 (by omega)
    | succ n1 ih2 =>
      intro x3 x4 q3 hn5
      refine ov_blk (ls2 := [(0, ov_r 90), (1, ov_i a), (2, ov_i b), (3, ov_i x3), (4, ov_i x4)]) (st2 := [ov_i b, ov_i x4]) (pc2 := 8) b_220_5_2 rfl rfl ?_
      refine ov_icge (tgt := 35) d_220_8 (by decide) (by omega) (by omega) (fun c6 => ?_) (fun c6 => ?_)
      · skip
        have we : x4 = b := by omega
        refine ov_blk (ls2 := [(0, ov_r 90), (1, ov_i a), (2, ov_i b), (3, ov_i x3), (4, ov_i x4)]) (st2 := [ov_i x3]) (pc2 := 36) b_220_35_1 rfl rfl ?_
        exact ov_reti (st := []) d_220_36 rfl ⟨_, rfl, rfl, rfl, (by show ((h 90 8) ≠ 0 ∧ x3 = -1 ∨ (h 90 8) = 0 ∧ x3 = pt_wh t m p a (Int.toNat b)) ∧ -1 ≤ x3 ∧ x3 ≤ b; rw [← we]; omega)⟩
      · skip
        refine ov_blk (ls2 := [(0, ov_r 90), (1, ov_i a), (2, ov_i b), (3, ov_i x3), (4, ov_i x4)]) (st2 := [ov_i (a + x4), ov_r 90]) (pc2 := 16) b_220_11_4 rfl rfl ?_
        refine ov_cV (as := [ov_i (a + x4)]) (st := []) (d2 := d - 1) d_220_16 lk_Mo_189 rfl (Nat.le_of_ble_eq_true rfl) (c := 1) (zb_90 I) (zs_90 I) ⟨by decide, rfl⟩ (by omega) (c_fMo_isWord_90 t m N p (pt_C (a + x4)) (d - 1) (by omega) U I (a + x4) (by omega) (by show 0 ≤ (h 90 7) ∧ (h 90 7) ≤ N; omega) (by show (h 93 ((h 90 7))) = p; omega) (by show 0 ≤ (h 90 8); omega) (by show 0 ≤ (a + x4) ∧ (a + x4) ≤ 21; omega) mt wd rfl) ?_
        rintro _ _ _ ⟨v7, rfl, rfl, rfl, y8⟩
        rcases y8 with ⟨rfl, f9⟩ | ⟨rfl, f10⟩
        · skip
          show ov_R u d ov_m220 19 [(0, ov_r 90), (1, ov_i a), (2, ov_i b), (3, ov_i x3), (4, ov_i x4)] [ov_i 0] z h (P_fMo_wordHere_90 F z h t m N p a b)
          have f11 : (h 90 8) ≠ 0 ∨ pt_iw t m p (pt_C (a + x4)) = 0 := f9
          clear f9
          refine ov_ifeq (tgt := 27) d_220_19 (by decide) (by omega) (fun c12 => ?_) (fun c12 => ?_)
          · skip
            refine ov_blk (ls2 := [(0, ov_r 90), (1, ov_i a), (2, ov_i b), (3, ov_i x3), (4, ov_i x4)]) (st2 := []) (pc2 := 29) b_220_27_2 rfl rfl ?_
            have ws := pt_wh_s (t := t) (m := m) (p := p) (a := a) (k := x4) (by omega)
            refine ov_blk (ls2 := [(0, ov_r 90), (1, ov_i a), (2, ov_i b), (3, ov_i x3), (4, ov_i (x4 + 1))]) (st2 := []) (pc2 := 32) b_220_29_1 rfl rfl ?_
            refine ov_goto (tgt := 5) d_220_32 (by decide) ?_
            exact ih2 x3 (x4 + 1) (by show 0 ≤ (x4 + 1) ∧ (x4 + 1) ≤ b ∧ -1 ≤ x3 ∧ x3 ≤ (x4 + 1) ∧ ((h 90 8) ≠ 0 ∧ x3 = -1 ∨ (h 90 8) = 0 ∧ x3 = pt_wh t m p a (Int.toNat (x4 + 1))); omega) (by omega)
          · omega
        · skip
          show ov_R u d ov_m220 19 [(0, ov_r 90), (1, ov_i a), (2, ov_i b), (3, ov_i x3), (4, ov_i x4)] [ov_i 1] z h (P_fMo_wordHere_90 F z h t m N p a b)
          have f13 : (h 90 8) = 0 ∧ pt_iw t m p (pt_C (a + x4)) = 1 ∧ pt_ty t m p = 2 := f10
          clear f10
          refine ov_ifeq (tgt := 27) d_220_19 (by decide) (by omega) (fun c14 => ?_) (fun c14 => ?_)
          · omega
          · skip
            refine ov_blk (ls2 := [(0, ov_r 90), (1, ov_i a), (2, ov_i b), (3, ov_i x3), (4, ov_i x4)]) (st2 := [ov_i x4]) (pc2 := 24) b_220_22_1 rfl rfl ?_
            refine ov_goto (tgt := 28) d_220_24 (by decide) ?_
            refine ov_blk (ls2 := [(0, ov_r 90), (1, ov_i a), (2, ov_i b), (3, ov_i x4), (4, ov_i x4)]) (st2 := []) (pc2 := 29) b_220_28_1 rfl rfl ?_
            have ws := pt_wh_s (t := t) (m := m) (p := p) (a := a) (k := x4) (by omega)
            refine ov_blk (ls2 := [(0, ov_r 90), (1, ov_i a), (2, ov_i b), (3, ov_i x4), (4, ov_i (x4 + 1))]) (st2 := []) (pc2 := 32) b_220_29_1 rfl rfl ?_
            refine ov_goto (tgt := 5) d_220_32 (by decide) ?_
            exact ih2 x4 (x4 + 1) (by show 0 ≤ (x4 + 1) ∧ (x4 + 1) ≤ b ∧ -1 ≤ x4 ∧ x4 ≤ (x4 + 1) ∧ ((h 90 8) ≠ 0 ∧ x4 = -1 ∨ (h 90 8) = 0 ∧ x4 = pt_wh t m p a (Int.toNat (x4 + 1))); omega) (by omega)
  exact L4 23 (-1) 0 (by show 0 ≤ 0 ∧ 0 ≤ b ∧ -1 ≤ (-1) ∧ (-1) ≤ 0 ∧ ((h 90 8) ≠ 0 ∧ (-1) = -1 ∨ (h 90 8) = 0 ∧ (-1) = pt_wh t m p a (Int.toNat 0)); omega) (by omega)
abbrev P_fMo_isName_90 (F : ov_H × ov_Z) (z : ov_Z) (h : ov_H) (t : Int → Int) (m : Int) (N : Int) (p : Int) : Option ov_V → ov_Z → ov_H → Prop := fun r0 z' h' => ∃ r : Int, r0 = some (ov_i r) ∧ z = z' ∧ h = h' ∧ ((r = 0 ∧ ((h 90 8) ≠ 0 ∨ pt_ty t m p ≠ 2 ∨ 0 ≤ pt_wh t m p 0 (Int.toNat 20))) ∨ (r = 1 ∧ ((h 90 8) = 0 ∧ pt_ty t m p = 2 ∧ pt_wh t m p 0 (Int.toNat 20) < 0)))
set_option maxHeartbeats 4000000 in
theorem c_fMo_isName_90 {u : ov_U} {F : ov_H × ov_Z} (t : Int → Int) (m : Int) (N : Int) (p : Int) {z : ov_Z} {h : ov_H} (d : Nat) (hd : 2 ≤ d) (U : ov_cap u) (I : ov_N F z h) (p0 : 0 ≤ (h 90 7) ∧ (h 90 7) ≤ N) (p1 : (h 93 ((h 90 7))) = p) (p2 : 0 ≤ (h 90 8)) (mt : pt_MT t m (h 92) (h 93) (h 94) N) (wd : pt_WD (h 95)) : ov_T u d ov_m225 [ov_r 90] z h (P_fMo_isName_90 F z h t m N p) := by
  refine ov_en rfl (Nat.le_of_ble_eq_true rfl) ?_
  show ov_R u d ov_m225 0 [(0, ov_r 90)] [] z h (P_fMo_isName_90 F z h t m N p)
  have ma := pt_MT_at mt (k := h 90 7) (by omega)
  rw [p1] at ma
  have mp := ma.2.1
  have m2 := ma.2.2.1
  have m3 := ma.2.2.2
  have mc := pt_cm_f (t := t) (m := m) (p := p)
  have mN := mt.1.2.1
  clear ma
  refine ov_blk (ls2 := [(0, ov_r 90)]) (st2 := [ov_r 90]) (pc2 := 1) b_225_0_1 rfl rfl ?_
  refine ov_getf (v := ov_i (h 90 8)) d_225_1 fl_Mo_180 (zb_90 I) (zs_90 I) rfl ?_
  have g1 := rg_90_8 I
  refine ov_ifne (tgt := 34) d_225_4 (by decide) (by omega) (fun c2 => ?_) (fun c2 => ?_)
  · skip
    refine ov_blk (ls2 := [(0, ov_r 90)]) (st2 := [ov_i 0]) (pc2 := 35) b_225_34_1 rfl rfl ?_
    exact ov_retz (st := []) d_225_35 rfl (by omega) ⟨_, rfl, rfl, rfl, (Or.inl ⟨rfl, (by show (h 90 8) ≠ 0 ∨ pt_ty t m p ≠ 2 ∨ 0 ≤ pt_wh t m p 0 (Int.toNat 20); omega)⟩)⟩
  · skip
    refine ov_blk (ls2 := [(0, ov_r 90)]) (st2 := [ov_r 90]) (pc2 := 8) b_225_7_1 rfl rfl ?_
    refine ov_getf (v := ov_r 92) d_225_8 fl_Mo_24 (zb_90 I) (zs_90 I) (congrArg ov_r (rg_90_4 I)) ?_
    refine ov_blk (ls2 := [(0, ov_r 90)]) (st2 := [ov_r 90, ov_r 92]) (pc2 := 12) b_225_11_1 rfl rfl ?_
    refine ov_getf (v := ov_i (h 90 7)) d_225_12 fl_Mo_177 (zb_90 I) (zs_90 I) rfl ?_
    have g3 := rg_90_7 I
    refine ov_iald d_225_15 (zb_92 I) (zs_92 I) (by omega) ?_
    have g5 := ra_92 I (h 90 7)
    have e4 : h 92 (h 90 7) = (pt_cm (pt_ty t m p)) := m2
    rw [e4] at g5
    rw [e4]
    show ov_R u d ov_m225 16 [(0, ov_r 90)] [ov_i (pt_cm (pt_ty t m p))] z h (P_fMo_isName_90 F z h t m N p)
    refine ov_blk (ls2 := [(0, ov_r 90)]) (st2 := [ov_i 1, ov_i (pt_cm (pt_ty t m p))]) (pc2 := 17) b_225_16_1 rfl rfl ?_
    refine ov_icne (tgt := 34) d_225_17 (by decide) (by omega) (by omega) (fun c6 => ?_) (fun c6 => ?_)
    · skip
      refine ov_blk (ls2 := [(0, ov_r 90)]) (st2 := [ov_i 0]) (pc2 := 35) b_225_34_1 rfl rfl ?_
      exact ov_retz (st := []) d_225_35 rfl (by omega) ⟨_, rfl, rfl, rfl, (Or.inl ⟨rfl, (by show (h 90 8) ≠ 0 ∨ pt_ty t m p ≠ 2 ∨ 0 ≤ pt_wh t m p 0 (Int.toNat 20); omega)⟩)⟩
    · skip
      refine ov_blk (ls2 := [(0, ov_r 90)]) (st2 := [ov_i 20, ov_i 0, ov_r 90]) (pc2 := 24) b_225_20_3 rfl rfl ?_
      refine ov_cV (as := [ov_i 0, ov_i 20]) (st := []) (d2 := d - 1) d_225_24 lk_Mo_202 rfl (Nat.le_of_ble_eq_true rfl) (c := 1) (zb_90 I) (zs_90 I) ⟨by decide, rfl⟩ (by omega) (c_fMo_wordHere_90 t m N p (d - 1) (by omega) U I 0 20 (by omega) (by omega) (by show 0 ≤ (h 90 7) ∧ (h 90 7) ≤ N; omega) (by show (h 93 ((h 90 7))) = p; omega) (by show 0 ≤ (h 90 8); omega) (by show 0 ≤ (0 : Int) ∧ 0 ≤ (20 : Int) ∧ (0 : Int) + (20 : Int) ≤ 22; omega) mt wd) ?_
      rintro _ _ _ ⟨v7, rfl, rfl, rfl, f8⟩
      have f9 : ((h 90 8) ≠ 0 ∧ v7 = -1 ∨ (h 90 8) = 0 ∧ v7 = pt_wh t m p (0 : Int) (Int.toNat (20 : Int))) ∧ -1 ≤ v7 ∧ v7 ≤ (20 : Int) := f8
      clear f8
      show ov_R u d ov_m225 27 [(0, ov_r 90)] [ov_i v7] z h (P_fMo_isName_90 F z h t m N p)
      refine ov_ifge (tgt := 34) d_225_27 (by decide) (by omega) (fun c10 => ?_) (fun c10 => ?_)
      · skip
        refine ov_blk (ls2 := [(0, ov_r 90)]) (st2 := [ov_i 0]) (pc2 := 35) b_225_34_1 rfl rfl ?_
        exact ov_retz (st := []) d_225_35 rfl (by omega) ⟨_, rfl, rfl, rfl, (Or.inl ⟨rfl, (by show (h 90 8) ≠ 0 ∨ pt_ty t m p ≠ 2 ∨ 0 ≤ pt_wh t m p 0 (Int.toNat 20); omega)⟩)⟩
      · skip
        refine ov_blk (ls2 := [(0, ov_r 90)]) (st2 := [ov_i 1]) (pc2 := 31) b_225_30_1 rfl rfl ?_
        refine ov_goto (tgt := 35) d_225_31 (by decide) ?_
        exact ov_retz (st := []) d_225_35 rfl (by omega) ⟨_, rfl, rfl, rfl, (Or.inr ⟨rfl, (by show (h 90 8) = 0 ∧ pt_ty t m p = 2 ∧ pt_wh t m p 0 (Int.toNat 20) < 0; omega)⟩)⟩

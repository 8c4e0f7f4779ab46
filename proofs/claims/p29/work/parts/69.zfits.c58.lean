theorem b_189_127_3 : ov_ds ov_m189.2.1 127 [.iadd, .istore 10, .aload_n 0] = true := by decide +kernel
theorem b_189_175_18 : ov_ds ov_m189.2.1 175 [.iadd, .iload_n 3, .iconst 1, .iadd, .lload 4, .iload 9, .i2l, .iload_n 3, .lshl, .lor, .lload 6, .lconst 1, .iload 12, .lshl, .lor, .iload 8, .iload 11, .iadd] = true := by decide +kernel
theorem b_189_30_4 : ov_ds ov_m189.2.1 30 [.iload 8, .iload 9, .iadd, .aload_n 0] = true := by decide +kernel
abbrev P_fWays_trace_46_k46_3_58_k46_4_4_58 (F : ov_H) (z : ov_Z) (h : ov_H) (qs : Int → Int) (qt : Int → Int) (nn : Int) (c : Int) (s : Int) (n : Int) (bits : Int) (mask : Int) (met : Int) : Option ov_V → ov_Z → ov_H → Prop := fun r0 z' h' => r0 = none ∧ ov_I F z' h' ∧ (∀ a : Int, a ≠ 46 → h' a = h a) ∧ ((h 46 0) ≤ (h' 46 0) ∧ (h' 46 0) ≤ (h 46 0) + ft_p (Int.toNat (13 - n)) ∧ (h' 46 3) = 58 ∧ (h' 46 4) = 4) ∧ (ft_H (h' 46) = ft_c (ov_tw58 F) qs qt nn (Int.toNat (14 - n)) c s n bits mask met (ft_H (h 46)))
set_option maxHeartbeats 4000000 in
theorem c_fWays_trace_46_k46_3_58_k46_4_4_58 {u : ov_U} {F : ov_H} (qs : Int → Int) (qt : Int → Int) (nn : Int) (ft58 : ov_fT 58 F) (k : Nat) (HC : ∀ k' : Nat, k' < k → ∀ {z : ov_Z} {h : ov_H} (qs qt : Int → Int) (nn : Int) (d : Nat) (hd : (10 + 1 * k' ) ≤ d) (U : ov_cap u) (I : ov_I F z h) (c : Int) (s : Int) (n : Int) (bits : Int) (mask : Int) (met : Int) (k0 : h 46 3 = 58) (k1 : h 46 4 = 4) (g_c : ov_g c) (g_s : ov_g s) (g_n : ov_g n) (g_met : ov_g met) (p0 : 0 ≤ c ∧ c ≤ 53) (p1 : 0 ≤ n ∧ n + (k' : Int) = 13) (p2 : (h 4 5) = nn) (p3 : 0 ≤ s ∧ s + 100 * (k' : Int) ≤ 2000) (p4 : 0 ≤ met ∧ met + 10 * (k' : Int) ≤ 200) (p5 : 0 ≤ (h 46 0) ∧ (h 46 0) + ft_p (Int.toNat (13 - n)) ≤ 20000) (p6 : 0 ≤ (h 64 0)) (p7 : F (-5) 58 = 1) (cq7 : (h 7) = qs) (cq8 : (h 8) = qt), ov_T u d ov_m189 [ov_r 46, ov_i c, ov_i s, ov_i n, ov_l bits, ov_l mask, ov_i met] z h (P_fWays_trace_46_k46_3_58_k46_4_4_58 F z h qs qt nn c s n bits mask met)) {z : ov_Z} {h : ov_H} (d : Nat) (hd : (10 + 1 * k ) ≤ d) (U : ov_cap u) (I : ov_I F z h) (c : Int) (s : Int) (n : Int) (bits : Int) (mask : Int) (met : Int) (k0 : h 46 3 = 58) (k1 : h 46 4 = 4) (g_c : ov_g c) (g_s : ov_g s) (g_n : ov_g n) (g_met : ov_g met) (p0 : 0 ≤ c ∧ c ≤ 53) (p1 : 0 ≤ n ∧ n + (k : Int) = 13) (p2 : (h 4 5) = nn) (p3 : 0 ≤ s ∧ s + 100 * (k : Int) ≤ 2000) (p4 : 0 ≤ met ∧ met + 10 * (k : Int) ≤ 200) (p5 : 0 ≤ (h 46 0) ∧ (h 46 0) + ft_p (Int.toNat (13 - n)) ≤ 20000) (p6 : 0 ≤ (h 64 0)) (p7 : F (-5) 58 = 1) (cq7 : (h 7) = qs) (cq8 : (h 8) = qt) : ov_T u d ov_m189 [ov_r 46, ov_i c, ov_i s, ov_i n, ov_l bits, ov_l mask, ov_i met] z h (P_fWays_trace_46_k46_3_58_k46_4_4_58 F z h qs qt nn c s n bits mask met) := by
  refine ov_en rfl (Nat.le_of_ble_eq_true rfl) ?_
  show ov_R u d ov_m189 0 [(0, ov_r 46), (1, ov_i c), (2, ov_i s), (3, ov_i n), (4, ov_l bits), (6, ov_l mask), (8, ov_i met)] [] z h (P_fWays_trace_46_k46_3_58_k46_4_4_58 F z h qs qt nn c s n bits mask met)
  have g45 := rg_4_5 I
  have gS := ra_64 I 0
  have fp00 := ft_p_0 (Int.toNat (13 - n))
  have O := ov_ok58 I p6 p7
  rw [ov_tw58_F I ft58] at O
  refine ov_blk (ls2 := [(0, ov_r 46), (1, ov_i c), (2, ov_i s), (3, ov_i n), (4, ov_l bits), (6, ov_l mask), (8, ov_i met)]) (st2 := [ov_r 46, ov_i c]) (pc2 := 2) b_189_0_2 rfl rfl ?_
  refine ov_getf (v := ov_r 58) d_189_2 fl_Ways_18 (zb_46 I) (zs_46 I) (congrArg ov_r k0) ?_
  refine ov_cV (as := []) (st := [ov_i c]) (d2 := d - 1) d_189_5 lk_Ways_28 rfl (Nat.le_of_ble_eq_true rfl) (c := 9) (zb_58 I) (zs_58 I) ⟨by decide, rfl⟩ (by omega) (c_Town_home_58 (d - 1) (by omega) U I (by show F (-5) 58 = 1; omega)) ?_
  rintro _ _ _ ⟨v1, rfl, rfl, rfl, f2⟩
  have f3 : v1 = ((h 58 1) - 1) * 6 + (h 58 0) - 1 ∧ 0 ≤ v1 ∧ v1 ≤ 53 := f2
  clear f2
  show ov_R u d ov_m189 8 [(0, ov_r 46), (1, ov_i c), (2, ov_i s), (3, ov_i n), (4, ov_l bits), (6, ov_l mask), (8, ov_i met)] [ov_i v1, ov_i c] z h (P_fWays_trace_46_k46_3_58_k46_4_4_58 F z h qs qt nn c s n bits mask met)
  have hh : ov_hmf (ov_tw58 F) = v1 := by
    rw [← ov_tw58_F I ft58]
    show (h 58 1 - 1) * 6 + h 58 0 - 1 = v1
    omega
  refine ov_icne (tgt := 87) d_189_8 (by decide) (by omega) (by omega) (fun c4 => ?_) (fun c4 => ?_)
  · skip
    refine ov_blk (ls2 := [(0, ov_r 46), (1, ov_i c), (2, ov_i s), (3, ov_i n), (4, ov_l bits), (6, ov_l mask), (8, ov_i met), (9, ov_i 0)]) (st2 := []) (pc2 := 90) b_189_87_2 rfl rfl ?_
    have L8 : ∀ (n5 : Nat) (x9 : Int) (z9 : ov_Z) (h10 : ov_H) (I11 : ov_I F z9 h10) (E12 : h10 4 = h 4) (E13 : h10 7 = h 7) (E14 : h10 8 = h 8) (fr15 : ∀ a : Int, a ≠ 46 → h10 a = h a) (e16 : h10 46 3 = 58) (e17 : h10 46 4 = 4) (ya : ft_H (h10 46) = ft_u (ft_g (ov_tw58 F) qs qt nn (ft_c (ov_tw58 F) qs qt nn (Int.toNat (13 - n))) c s n bits mask met) x9 (ft_H (h 46))) (q7 : 0 ≤ x9 ∧ x9 ≤ 2 ∧ (x9 = 0 ∧ (h10 46 0) = (h 46 0) ∨ x9 = 1 ∧ (h 46 0) ≤ (h10 46 0) ∧ (h10 46 0) ≤ (h 46 0) + ft_p (Int.toNat (13 - (n + 1))) ∨ x9 = 2 ∧ (h 46 0) ≤ (h10 46 0) ∧ (h10 46 0) ≤ (h 46 0) + ft_p (Int.toNat (13 - n)))), 2 - x9 < (n5 : Int) → ov_R u d ov_m189 90 [(0, ov_r 46), (1, ov_i c), (2, ov_i s), (3, ov_i n), (4, ov_l bits), (6, ov_l mask), (8, ov_i met), (9, ov_i x9)] [] z9 h10 (P_fWays_trace_46_k46_3_58_k46_4_4_58 F z h qs qt nn c s n bits mask met) := by
      intro n5
      induction n5 with
      | zero =>
        intro x9 z9 h10 I11 E12 E13 E14 fr15 e16 e17 ya q7 hn18
        exact absurd hn18 (by omega)
      | succ n5 ih6 =>
        intro x9 z9 h10 I11 E12 E13 E14 fr15 e16 e17 ya q7 hn18
        refine ov_blk (ls2 := [(0, ov_r 46), (1, ov_i c), (2, ov_i s), (3, ov_i n), (4, ov_l bits), (6, ov_l mask), (8, ov_i met), (9, ov_i x9)]) (st2 := [ov_i 1, ov_i x9]) (pc2 := 93) b_189_90_2 rfl rfl ?_
        refine ov_icgt (tgt := 208) d_189_93 (by decide) (by omega) (by omega) (fun c19 => ?_) (fun c19 => ?_)
        · skip
          have fpo := ft_p_m (n := n)
          exact ov_retv (st := []) d_189_208 rfl ⟨rfl, I11, (fun a ca => (fr15 a ca)), (by show (h 46 0) ≤ (h10 46 0) ∧ (h10 46 0) ≤ (h 46 0) + ft_p (Int.toNat (13 - n)) ∧ (h10 46 3) = 58 ∧ (h10 46 4) = 4; omega), (ft_c_n (j := Int.toNat (13 - n)) (by omega) (by omega) (Eq.trans ya (congrArg (fun v => ft_u (ft_g (ov_tw58 F) qs qt nn (ft_c (ov_tw58 F) qs qt nn (Int.toNat (13 - n))) c s n bits mask met) v (ft_H (h 46))) (show x9 = 2 by omega))))⟩
        · skip
          have kS : h10 64 0 = h 64 0 := congrFun (ov_fT_eq I I11 ft58 (by decide) (b := 64) (by decide)) 0
          have fpn := ft_p_m (n := n)
          obtain rfl | rfl : x9 = 0 ∨ x9 = 1 := by omega
          · skip
            refine ov_blk (ls2 := [(0, ov_r 46), (1, ov_i c), (2, ov_i s), (3, ov_i n), (4, ov_l bits), (6, ov_l mask), (8, ov_i met), (9, ov_i 0)]) (st2 := [ov_i 13, ov_i n]) (pc2 := 99) b_189_96_2 rfl rfl ?_
            refine ov_icge (tgt := 208) d_189_99 (by decide) (by omega) (by omega) (fun c20 => ?_) (fun c20 => ?_)
            · skip
              have fpo := ft_p_m (n := n)
              exact ov_retv (st := []) d_189_208 rfl ⟨rfl, I11, (fun a ca => (fr15 a ca)), (by show (h 46 0) ≤ (h10 46 0) ∧ (h10 46 0) ≤ (h 46 0) + ft_p (Int.toNat (13 - n)) ∧ (h10 46 3) = 58 ∧ (h10 46 4) = 4; omega), (ft_c_end (j := Int.toNat (13 - n)) (x := 0) (by omega) (by omega) (by omega) ya)⟩
            · skip
              refine ov_blk (ls2 := [(0, ov_r 46), (1, ov_i c), (2, ov_i s), (3, ov_i n), (4, ov_l bits), (6, ov_l mask), (8, ov_i met), (9, ov_i 0)]) (st2 := [ov_r 46]) (pc2 := 103) b_189_102_1 rfl rfl ?_
              refine ov_getf (v := ov_r 58) d_189_103 fl_Ways_18 (zb_46 I11) (zs_46 I11) (congrArg ov_r e16) ?_
              refine ov_blk (ls2 := [(0, ov_r 46), (1, ov_i c), (2, ov_i s), (3, ov_i n), (4, ov_l bits), (6, ov_l mask), (8, ov_i met), (9, ov_i 0)]) (st2 := [ov_i 0, ov_i c, ov_r 58]) (pc2 := 109) b_189_106_2 rfl rfl ?_
              refine ov_cV (as := [ov_i c, ov_i 0]) (st := []) (d2 := d - 1) d_189_109 lk_Ways_38 rfl (Nat.le_of_ble_eq_true rfl) (c := 9) (zb_58 I11) (zs_58 I11) ⟨by decide, rfl⟩ (by omega) (c_Town_isOpen_58_b (d - 1) (by omega) U I11 c 0 (by omega) (by omega) (by show 0 ≤ c ∧ c ≤ 53; omega)) ?_
              rintro _ _ _ ⟨v21, rfl, rfl, rfl, f22⟩
              have f23 : (v21 = 0 ∨ v21 = 1) ∧ ((0 : Int) = 0 → v21 = (h10 65 (c)) % 2) ∧ ((0 : Int) = 1 → v21 = (h10 65 (c)) / 2) := f22
              clear f22
              show ov_R u d ov_m189 112 [(0, ov_r 46), (1, ov_i c), (2, ov_i s), (3, ov_i n), (4, ov_l bits), (6, ov_l mask), (8, ov_i met), (9, ov_i 0)] [ov_i v21] z9 h10 (P_fWays_trace_46_k46_3_58_k46_4_4_58 F z h qs qt nn c s n bits mask met)
              have hob : ov_ob (ov_tw58 F) c 0 = v21 := by
                rw [← ov_tw58_F I11 ft58, ov_ob0]
                show h10 65 c % 2 = v21
                omega
              refine ov_ifeq (tgt := 202) d_189_112 (by decide) (by omega) (fun c24 => ?_) (fun c24 => ?_)
              · skip
                refine ov_blk (ls2 := [(0, ov_r 46), (1, ov_i c), (2, ov_i s), (3, ov_i n), (4, ov_l bits), (6, ov_l mask), (8, ov_i met), (9, ov_i (0 + 1))]) (st2 := []) (pc2 := 205) b_189_202_1 rfl rfl ?_
                refine ov_goto (tgt := 90) d_189_205 (by decide) ?_
                have tz : ft_H (h10 46) = (ft_g (ov_tw58 F) qs qt nn (ft_c (ov_tw58 F) qs qt nn (Int.toNat (13 - n))) c s n bits mask met) 0 (ft_H (h10 46)) := ft_g_no (by omega)
                exact ih6 (0 + 1) _ _ I11 E12 E13 E14 (fun a ca => (fr15 a ca)) e16 e17 (ft_u_1 (Eq.trans tz (congrArg ((ft_g (ov_tw58 F) qs qt nn (ft_c (ov_tw58 F) qs qt nn (Int.toNat (13 - n))) c s n bits mask met) 0) ya))) (by show 0 ≤ (0 + 1) ∧ (0 + 1) ≤ 2 ∧ ((0 + 1) = 0 ∧ (h10 46 0) = (h 46 0) ∨ (0 + 1) = 1 ∧ (h 46 0) ≤ (h10 46 0) ∧ (h10 46 0) ≤ (h 46 0) + ft_p (Int.toNat (13 - (n + 1))) ∨ (0 + 1) = 2 ∧ (h 46 0) ≤ (h10 46 0) ∧ (h10 46 0) ≤ (h 46 0) + ft_p (Int.toNat (13 - n))); omega) (by omega)
              · skip
                refine ov_blk (ls2 := [(0, ov_r 46), (1, ov_i c), (2, ov_i s), (3, ov_i n), (4, ov_l bits), (6, ov_l mask), (8, ov_i met), (9, ov_i 0)]) (st2 := [ov_r 46, ov_i s]) (pc2 := 117) b_189_115_2 rfl rfl ?_
                refine ov_getf (v := ov_r 58) d_189_117 fl_Ways_18 (zb_46 I11) (zs_46 I11) (congrArg ov_r e16) ?_
                refine ov_blk (ls2 := [(0, ov_r 46), (1, ov_i c), (2, ov_i s), (3, ov_i n), (4, ov_l bits), (6, ov_l mask), (8, ov_i met), (9, ov_i 0)]) (st2 := [ov_i s, ov_i 0, ov_i c, ov_r 58, ov_i s]) (pc2 := 124) b_189_120_3 rfl rfl ?_
                refine ov_cV (as := [ov_i c, ov_i 0, ov_i s]) (st := [ov_i s]) (d2 := d - 1) d_189_124 lk_Ways_53 rfl (Nat.le_of_ble_eq_true rfl) (c := 9) (zb_58 I11) (zs_58 I11) ⟨by decide, rfl⟩ (by omega) (c_Town_waitFor_58_b (d - 1) (by omega) U I11 c 0 s (by omega) (by omega) (by omega) (by show 0 ≤ c ∧ c ≤ 53; omega) (by show 0 ≤ s ∧ s ≤ 1100000; omega)) ?_
                rintro _ _ _ ⟨v25, rfl, rfl, rfl, f26⟩
                have f27 : v25 = ov_wtv (h10 59 (c)) (h10 60 (c)) (h10 61 (c)) (h10 62 (c)) (0 : Int) s ∧ 0 ≤ v25 ∧ v25 ≤ 60 := f26
                clear f26
                show ov_R u d ov_m189 127 [(0, ov_r 46), (1, ov_i c), (2, ov_i s), (3, ov_i n), (4, ov_l bits), (6, ov_l mask), (8, ov_i met), (9, ov_i 0)] [ov_i v25, ov_i s] z9 h10 (P_fWays_trace_46_k46_3_58_k46_4_4_58 F z h qs qt nn c s n bits mask met)
                have hlv : s + v25 = ft_lv (ov_tw58 F) c 0 s := by
                  rw [← ov_tw58_F I11 ft58]
                  show s + v25 = s + ov_wtv (h10 59 c) (h10 60 c) (h10 61 c) (h10 62 c) 0 s
                  omega
                refine ov_blk (ls2 := [(0, ov_r 46), (1, ov_i c), (2, ov_i s), (3, ov_i n), (4, ov_l bits), (6, ov_l mask), (8, ov_i met), (9, ov_i 0), (10, ov_i (s + v25))]) (st2 := [ov_r 46]) (pc2 := 131) b_189_127_3 rfl rfl ?_
                refine ov_getf (v := ov_r 4) d_189_131 fl_Ways_82 (zb_46 I11) (zs_46 I11) (congrArg ov_r e17) ?_
                refine ov_blk (ls2 := [(0, ov_r 46), (1, ov_i c), (2, ov_i s), (3, ov_i n), (4, ov_l bits), (6, ov_l mask), (8, ov_i met), (9, ov_i 0), (10, ov_i (s + v25))]) (st2 := [ov_i (s + v25), ov_i s, ov_i c, ov_r 4]) (pc2 := 138) b_189_134_3 rfl rfl ?_
                have cf28 : h10 4 (5) = h 4 (5) := congrFun E12 (5)
                refine ov_cV (as := [ov_i c, ov_i s, ov_i (s + v25)]) (st := []) (d2 := d - 1) d_189_138 lk_Ways_102 rfl (Nat.le_of_ble_eq_true rfl) (c := 7) (zb_4 I11) (zs_4 I11) ⟨by decide, rfl⟩ (by omega) (c_fState_sightingsWithin_4 qs qt nn (d - 1) (by omega) U I11 c s (s + v25) (by omega) (by omega) (by omega) (by show (h10 4 5) = nn; omega) (by rw [show h10 7 = h 7 from E13]; exact cq7) (by rw [show h10 8 = h 8 from E14]; exact cq8)) ?_
                rintro _ _ _ ⟨v29, rfl, rfl, rfl, f30⟩
                have f31 : v29 = ft_w qs qt c s (s + v25) (Int.toNat nn) ∧ -1 ≤ v29 ∧ v29 ≤ 8 := f30
                clear f30
                show ov_R u d ov_m189 141 [(0, ov_r 46), (1, ov_i c), (2, ov_i s), (3, ov_i n), (4, ov_l bits), (6, ov_l mask), (8, ov_i met), (9, ov_i 0), (10, ov_i (s + v25))] [ov_i v29] z9 h10 (P_fWays_trace_46_k46_3_58_k46_4_4_58 F z h qs qt nn c s n bits mask met)
                refine ov_blk (ls2 := [(0, ov_r 46), (1, ov_i c), (2, ov_i s), (3, ov_i n), (4, ov_l bits), (6, ov_l mask), (8, ov_i met), (9, ov_i 0), (10, ov_i (s + v25)), (11, ov_i v29)]) (st2 := [ov_i (-1), ov_i v29]) (pc2 := 146) b_189_141_3 rfl rfl ?_
                refine ov_iceq (tgt := 202) d_189_146 (by decide) (by omega) (by omega) (fun c32 => ?_) (fun c32 => ?_)
                · skip
                  refine ov_blk (ls2 := [(0, ov_r 46), (1, ov_i c), (2, ov_i s), (3, ov_i n), (4, ov_l bits), (6, ov_l mask), (8, ov_i met), (9, ov_i (0 + 1)), (10, ov_i (s + v25)), (11, ov_i v29)]) (st2 := []) (pc2 := 205) b_189_202_1 rfl rfl ?_
                  refine ov_goto (tgt := 90) d_189_205 (by decide) ?_
                  refine ov_sub (ls2 := [(0, ov_r 46), (1, ov_i c), (2, ov_i s), (3, ov_i n), (4, ov_l bits), (6, ov_l mask), (8, ov_i met), (9, ov_i (0 + 1))]) (List.Sublist.subset (by repeat (first | exact List.Sublist.refl _ | apply List.Sublist.cons_cons | apply List.Sublist.cons))) ?_
                  have tz : ft_H (h10 46) = (ft_g (ov_tw58 F) qs qt nn (ft_c (ov_tw58 F) qs qt nn (Int.toNat (13 - n))) c s n bits mask met) 0 (ft_H (h10 46)) := ft_g_mi (here := v29) (lv := s + v25) (by omega) hlv (by omega) (by omega)
                  exact ih6 (0 + 1) _ _ I11 E12 E13 E14 (fun a ca => (fr15 a ca)) e16 e17 (ft_u_1 (Eq.trans tz (congrArg ((ft_g (ov_tw58 F) qs qt nn (ft_c (ov_tw58 F) qs qt nn (Int.toNat (13 - n))) c s n bits mask met) 0) ya))) (by show 0 ≤ (0 + 1) ∧ (0 + 1) ≤ 2 ∧ ((0 + 1) = 0 ∧ (h10 46 0) = (h 46 0) ∨ (0 + 1) = 1 ∧ (h 46 0) ≤ (h10 46 0) ∧ (h10 46 0) ≤ (h 46 0) + ft_p (Int.toNat (13 - (n + 1))) ∨ (0 + 1) = 2 ∧ (h 46 0) ≤ (h10 46 0) ∧ (h10 46 0) ≤ (h 46 0) + ft_p (Int.toNat (13 - n))); omega) (by omega)
                · skip
                  refine ov_blk (ls2 := [(0, ov_r 46), (1, ov_i c), (2, ov_i s), (3, ov_i n), (4, ov_l bits), (6, ov_l mask), (8, ov_i met), (9, ov_i 0), (10, ov_i (s + v25)), (11, ov_i v29)]) (st2 := [ov_r 46]) (pc2 := 150) b_189_149_1 rfl rfl ?_
                  refine ov_getf (v := ov_r 58) d_189_150 fl_Ways_18 (zb_46 I11) (zs_46 I11) (congrArg ov_r e16) ?_
                  refine ov_blk (ls2 := [(0, ov_r 46), (1, ov_i c), (2, ov_i s), (3, ov_i n), (4, ov_l bits), (6, ov_l mask), (8, ov_i met), (9, ov_i 0), (10, ov_i (s + v25)), (11, ov_i v29)]) (st2 := [ov_i 0, ov_i c, ov_r 58]) (pc2 := 156) b_189_153_2 rfl rfl ?_
                  refine ov_cV (as := [ov_i c, ov_i 0]) (st := []) (d2 := d - 1) d_189_156 lk_Ways_42 rfl (Nat.le_of_ble_eq_true rfl) (c := 9) (zb_58 I11) (zs_58 I11) ⟨by decide, rfl⟩ (by omega) (c_Town_after_58 (d - 1) (by omega) U I11 c 0 (by omega) (by omega) (by show 0 ≤ c ∧ c ≤ 53; omega)) ?_
                  rintro _ _ _ ⟨v33, rfl, rfl, rfl, f34⟩
                  have f35 : ((0 : Int) = 0 → v33 = c + 1) ∧ (¬ (0 : Int) = 0 → v33 = c + 6) := f34
                  clear f34
                  show ov_R u d ov_m189 159 [(0, ov_r 46), (1, ov_i c), (2, ov_i s), (3, ov_i n), (4, ov_l bits), (6, ov_l mask), (8, ov_i met), (9, ov_i 0), (10, ov_i (s + v25)), (11, ov_i v29)] [ov_i v33] z9 h10 (P_fWays_trace_46_k46_3_58_k46_4_4_58 F z h qs qt nn c s n bits mask met)
                  have hnx : v33 = ov_nxc c 0 := by
                    show v33 = c + 1
                    omega
                  have hno := ov_nxc_le O (way := 0) p0 (Or.inl rfl) (by omega)
                  have fpm := ft_p_m (n := n)
                  refine ov_blk (ls2 := [(0, ov_r 46), (1, ov_i c), (2, ov_i s), (3, ov_i n), (4, ov_l bits), (6, ov_l mask), (8, ov_i met), (9, ov_i 0), (10, ov_i (s + v25)), (11, ov_i v29), (12, ov_i v33)]) (st2 := [ov_r 46, ov_i (s + v25), ov_i v33, ov_r 46]) (pc2 := 167) b_189_159_5 rfl rfl ?_
                  refine ov_getf (v := ov_r 58) d_189_167 fl_Ways_18 (zb_46 I11) (zs_46 I11) (congrArg ov_r e16) ?_
                  refine ov_getf (v := ov_r 64) d_189_170 fl_Ways_56 (zb_58 I11) (zs_58 I11) (congrArg ov_r (rg_58_7 I11)) ?_
                  refine ov_blk (ls2 := [(0, ov_r 46), (1, ov_i c), (2, ov_i s), (3, ov_i n), (4, ov_l bits), (6, ov_l mask), (8, ov_i met), (9, ov_i 0), (10, ov_i (s + v25)), (11, ov_i v29), (12, ov_i v33)]) (st2 := [ov_i 0, ov_r 64, ov_i (s + v25), ov_i v33, ov_r 46]) (pc2 := 174) b_189_173_1 rfl rfl ?_
                  refine ov_iald d_189_174 (zb_64 I11) (zs_64 I11) (by omega) ?_
                  show ov_R u d ov_m189 175 [(0, ov_r 46), (1, ov_i c), (2, ov_i s), (3, ov_i n), (4, ov_l bits), (6, ov_l mask), (8, ov_i met), (9, ov_i 0), (10, ov_i (s + v25)), (11, ov_i v29), (12, ov_i v33)] [ov_i (h10 64 0), ov_i (s + v25), ov_i v33, ov_r 46] z9 h10 (P_fWays_trace_46_k46_3_58_k46_4_4_58 F z h qs qt nn c s n bits mask met)
                  have g36 := ra_64 I11 0
                  refine ov_blk (ls2 := [(0, ov_r 46), (1, ov_i c), (2, ov_i s), (3, ov_i n), (4, ov_l bits), (6, ov_l mask), (8, ov_i met), (9, ov_i 0), (10, ov_i (s + v25)), (11, ov_i v29), (12, ov_i v33)]) (st2 := [ov_i (met + v29), ov_l (ov_lor mask (ov_lshl 1 v33)), ov_l (ov_lor bits (ov_lshl (ov_w 0) n)), ov_i (n + 1), ov_i ((s + v25) + (h10 64 0)), ov_i v33, ov_r 46]) (pc2 := 199) b_189_175_18 rfl rfl ?_
                  have g37 := ov_wg 0
                  have g38 := ov_wq 0
                  refine ov_cV (as := [ov_i v33, ov_i ((s + v25) + (h10 64 0)), ov_i (n + 1), ov_l (ov_lor bits (ov_lshl (ov_w 0) n)), ov_l (ov_lor mask (ov_lshl 1 v33)), ov_i (met + v29)]) (st := []) (d2 := d - 1) d_189_199 lk_Ways_97 rfl (Nat.le_of_ble_eq_true rfl) (c := 12) (zb_46 I11) (zs_46 I11) ⟨by decide, rfl⟩ (by omega) (HC (k - 1) (by omega) qs qt nn (d - 1) (by omega) U I11 v33 ((s + v25) + (h10 64 0)) (n + 1) (ov_lor bits (ov_lshl (ov_w 0) n)) (ov_lor mask (ov_lshl 1 v33)) (met + v29) e16 e17 (by omega) (by omega) (by omega) (by omega) (by show 0 ≤ v33 ∧ v33 ≤ 53; omega) (by show 0 ≤ (n + 1) ∧ (n + 1) + ((k - 1 : Nat) : Int) = 13; omega) (by show (h10 4 5) = nn; omega) (by show 0 ≤ ((s + v25) + (h10 64 0)) ∧ ((s + v25) + (h10 64 0)) + 100 * ((k - 1 : Nat) : Int) ≤ 2000; omega) (by show 0 ≤ (met + v29) ∧ (met + v29) + 10 * ((k - 1 : Nat) : Int) ≤ 200; omega) (by show 0 ≤ (h10 46 0) ∧ (h10 46 0) + ft_p (Int.toNat (13 - (n + 1))) ≤ 20000; omega) (by show 0 ≤ (h10 64 0); omega) (by show F (-5) 58 = 1; omega) (by rw [show h10 7 = h 7 from E13]; exact cq7) (by rw [show h10 8 = h 8 from E14]; exact cq8)) ?_
                  rintro _ z39 h40 ⟨rfl, I41, y42, f43, y44⟩
                  have E45 : h40 4 = h 4 := Eq.trans (y42 4 (by decide)) (show h10 4 = h 4 from E12)
                  have E46 : h40 7 = h 7 := Eq.trans (y42 7 (by decide)) (show h10 7 = h 7 from E13)
                  have E47 : h40 8 = h 8 := Eq.trans (y42 8 (by decide)) (show h10 8 = h 8 from E14)
                  have fr48 : ∀ a : Int, a ≠ 46 → h40 a = h a := fun a ca => Eq.trans (y42 a (by omega)) (fr15 a ca)
                  have f49 : (h10 46 0) ≤ (h40 46 0) ∧ (h40 46 0) ≤ (h10 46 0) + ft_p (Int.toNat (13 - (n + 1))) ∧ (h40 46 3) = 58 ∧ (h40 46 4) = 4 := f43
                  clear f43
                  have y44_ : ft_H (h40 46) = ft_c (ov_tw58 F) qs qt nn (Int.toNat (14 - (n + 1))) v33 ((s + v25) + (h10 64 0)) (n + 1) (ov_lor bits (ov_lshl (ov_w 0) n)) (ov_lor mask (ov_lshl 1 v33)) (met + v29) (ft_H (h10 46)) := y44
                  show ov_R u d ov_m189 202 [(0, ov_r 46), (1, ov_i c), (2, ov_i s), (3, ov_i n), (4, ov_l bits), (6, ov_l mask), (8, ov_i met), (9, ov_i 0), (10, ov_i (s + v25)), (11, ov_i v29), (12, ov_i v33)] [] z39 h40 (P_fWays_trace_46_k46_3_58_k46_4_4_58 F z h qs qt nn c s n bits mask met)
                  have e50 : h40 46 3 = 58 := by omega
                  have e51 : h40 46 4 = 4 := by omega
                  have tz : ft_H (h40 46) = (ft_g (ov_tw58 F) qs qt nn (ft_c (ov_tw58 F) qs qt nn (Int.toNat (13 - n))) c s n bits mask met) 0 (ft_H (h10 46)) := ft_g_go (here := v29) (lv := s + v25) (nx := v33) (t2 := ((s + v25) + (h10 64 0))) (k2 := (n + 1)) (b2 := (ov_lor bits (ov_lshl (ov_w 0) n))) (mm := (ov_lor mask (ov_lshl 1 v33))) (m2 := (met + v29)) (by omega) hlv (by omega) (by omega) hnx (congrArg (fun f : ov_TW => s + v25 + f.2.2.2.2.2.1 0) (ov_tw58_F I11 ft58)) rfl rfl rfl rfl (Eq.trans y44_ (by rw [show Int.toNat (14 - (n + 1)) = Int.toNat (13 - n) by omega]))
                  refine ov_blk (ls2 := [(0, ov_r 46), (1, ov_i c), (2, ov_i s), (3, ov_i n), (4, ov_l bits), (6, ov_l mask), (8, ov_i met), (9, ov_i (0 + 1)), (10, ov_i (s + v25)), (11, ov_i v29), (12, ov_i v33)]) (st2 := []) (pc2 := 205) b_189_202_1 rfl rfl ?_
                  refine ov_goto (tgt := 90) d_189_205 (by decide) ?_
                  refine ov_sub (ls2 := [(0, ov_r 46), (1, ov_i c), (2, ov_i s), (3, ov_i n), (4, ov_l bits), (6, ov_l mask), (8, ov_i met), (9, ov_i (0 + 1))]) (List.Sublist.subset (by repeat (first | exact List.Sublist.refl _ | apply List.Sublist.cons_cons | apply List.Sublist.cons))) ?_
                  exact ih6 (0 + 1) _ _ I41 E45 E46 E47 (fun a ca => (fr48 a ca)) e50 e51 (ft_u_1 (Eq.trans tz (congrArg ((ft_g (ov_tw58 F) qs qt nn (ft_c (ov_tw58 F) qs qt nn (Int.toNat (13 - n))) c s n bits mask met) 0) ya))) (by show 0 ≤ (0 + 1) ∧ (0 + 1) ≤ 2 ∧ ((0 + 1) = 0 ∧ (h40 46 0) = (h 46 0) ∨ (0 + 1) = 1 ∧ (h 46 0) ≤ (h40 46 0) ∧ (h40 46 0) ≤ (h 46 0) + ft_p (Int.toNat (13 - (n + 1))) ∨ (0 + 1) = 2 ∧ (h 46 0) ≤ (h40 46 0) ∧ (h40 46 0) ≤ (h 46 0) + ft_p (Int.toNat (13 - n))); omega) (by omega)
          · skip
            refine ov_blk (ls2 := [(0, ov_r 46), (1, ov_i c), (2, ov_i s), (3, ov_i n), (4, ov_l bits), (6, ov_l mask), (8, ov_i met), (9, ov_i 1)]) (st2 := [ov_i 13, ov_i n]) (pc2 := 99) b_189_96_2 rfl rfl ?_
            refine ov_icge (tgt := 208) d_189_99 (by decide) (by omega) (by omega) (fun c52 => ?_) (fun c52 => ?_)
            · skip
              have fpo := ft_p_m (n := n)
              exact ov_retv (st := []) d_189_208 rfl ⟨rfl, I11, (fun a ca => (fr15 a ca)), (by show (h 46 0) ≤ (h10 46 0) ∧ (h10 46 0) ≤ (h 46 0) + ft_p (Int.toNat (13 - n)) ∧ (h10 46 3) = 58 ∧ (h10 46 4) = 4; omega), (ft_c_end (j := Int.toNat (13 - n)) (x := 1) (by omega) (by omega) (by omega) ya)⟩
            · skip
              refine ov_blk (ls2 := [(0, ov_r 46), (1, ov_i c), (2, ov_i s), (3, ov_i n), (4, ov_l bits), (6, ov_l mask), (8, ov_i met), (9, ov_i 1)]) (st2 := [ov_r 46]) (pc2 := 103) b_189_102_1 rfl rfl ?_
              refine ov_getf (v := ov_r 58) d_189_103 fl_Ways_18 (zb_46 I11) (zs_46 I11) (congrArg ov_r e16) ?_
              refine ov_blk (ls2 := [(0, ov_r 46), (1, ov_i c), (2, ov_i s), (3, ov_i n), (4, ov_l bits), (6, ov_l mask), (8, ov_i met), (9, ov_i 1)]) (st2 := [ov_i 1, ov_i c, ov_r 58]) (pc2 := 109) b_189_106_2 rfl rfl ?_
              refine ov_cV (as := [ov_i c, ov_i 1]) (st := []) (d2 := d - 1) d_189_109 lk_Ways_38 rfl (Nat.le_of_ble_eq_true rfl) (c := 9) (zb_58 I11) (zs_58 I11) ⟨by decide, rfl⟩ (by omega) (c_Town_isOpen_58_b (d - 1) (by omega) U I11 c 1 (by omega) (by omega) (by show 0 ≤ c ∧ c ≤ 53; omega)) ?_
              rintro _ _ _ ⟨v53, rfl, rfl, rfl, f54⟩
              have f55 : (v53 = 0 ∨ v53 = 1) ∧ ((1 : Int) = 0 → v53 = (h10 65 (c)) % 2) ∧ ((1 : Int) = 1 → v53 = (h10 65 (c)) / 2) := f54
              clear f54
              show ov_R u d ov_m189 112 [(0, ov_r 46), (1, ov_i c), (2, ov_i s), (3, ov_i n), (4, ov_l bits), (6, ov_l mask), (8, ov_i met), (9, ov_i 1)] [ov_i v53] z9 h10 (P_fWays_trace_46_k46_3_58_k46_4_4_58 F z h qs qt nn c s n bits mask met)
              have hob : ov_ob (ov_tw58 F) c 1 = v53 := by
                rw [← ov_tw58_F I11 ft58, ov_ob1]
                show h10 65 c / 2 = v53
                omega
              refine ov_ifeq (tgt := 202) d_189_112 (by decide) (by omega) (fun c56 => ?_) (fun c56 => ?_)
              · skip
                refine ov_blk (ls2 := [(0, ov_r 46), (1, ov_i c), (2, ov_i s), (3, ov_i n), (4, ov_l bits), (6, ov_l mask), (8, ov_i met), (9, ov_i (1 + 1))]) (st2 := []) (pc2 := 205) b_189_202_1 rfl rfl ?_
                refine ov_goto (tgt := 90) d_189_205 (by decide) ?_
                have tz : ft_H (h10 46) = (ft_g (ov_tw58 F) qs qt nn (ft_c (ov_tw58 F) qs qt nn (Int.toNat (13 - n))) c s n bits mask met) 1 (ft_H (h10 46)) := ft_g_no (by omega)
                exact ih6 (1 + 1) _ _ I11 E12 E13 E14 (fun a ca => (fr15 a ca)) e16 e17 (ft_u_2 (Eq.trans tz (congrArg ((ft_g (ov_tw58 F) qs qt nn (ft_c (ov_tw58 F) qs qt nn (Int.toNat (13 - n))) c s n bits mask met) 1) ya))) (by show 0 ≤ (1 + 1) ∧ (1 + 1) ≤ 2 ∧ ((1 + 1) = 0 ∧ (h10 46 0) = (h 46 0) ∨ (1 + 1) = 1 ∧ (h 46 0) ≤ (h10 46 0) ∧ (h10 46 0) ≤ (h 46 0) + ft_p (Int.toNat (13 - (n + 1))) ∨ (1 + 1) = 2 ∧ (h 46 0) ≤ (h10 46 0) ∧ (h10 46 0) ≤ (h 46 0) + ft_p (Int.toNat (13 - n))); omega) (by omega)
              · skip
                refine ov_blk (ls2 := [(0, ov_r 46), (1, ov_i c), (2, ov_i s), (3, ov_i n), (4, ov_l bits), (6, ov_l mask), (8, ov_i met), (9, ov_i 1)]) (st2 := [ov_r 46, ov_i s]) (pc2 := 117) b_189_115_2 rfl rfl ?_
                refine ov_getf (v := ov_r 58) d_189_117 fl_Ways_18 (zb_46 I11) (zs_46 I11) (congrArg ov_r e16) ?_
                refine ov_blk (ls2 := [(0, ov_r 46), (1, ov_i c), (2, ov_i s), (3, ov_i n), (4, ov_l bits), (6, ov_l mask), (8, ov_i met), (9, ov_i 1)]) (st2 := [ov_i s, ov_i 1, ov_i c, ov_r 58, ov_i s]) (pc2 := 124) b_189_120_3 rfl rfl ?_
                refine ov_cV (as := [ov_i c, ov_i 1, ov_i s]) (st := [ov_i s]) (d2 := d - 1) d_189_124 lk_Ways_53 rfl (Nat.le_of_ble_eq_true rfl) (c := 9) (zb_58 I11) (zs_58 I11) ⟨by decide, rfl⟩ (by omega) (c_Town_waitFor_58_b (d - 1) (by omega) U I11 c 1 s (by omega) (by omega) (by omega) (by show 0 ≤ c ∧ c ≤ 53; omega) (by show 0 ≤ s ∧ s ≤ 1100000; omega)) ?_
                rintro _ _ _ ⟨v57, rfl, rfl, rfl, f58⟩
                have f59 : v57 = ov_wtv (h10 59 (c)) (h10 60 (c)) (h10 61 (c)) (h10 62 (c)) (1 : Int) s ∧ 0 ≤ v57 ∧ v57 ≤ 60 := f58
                clear f58
                show ov_R u d ov_m189 127 [(0, ov_r 46), (1, ov_i c), (2, ov_i s), (3, ov_i n), (4, ov_l bits), (6, ov_l mask), (8, ov_i met), (9, ov_i 1)] [ov_i v57, ov_i s] z9 h10 (P_fWays_trace_46_k46_3_58_k46_4_4_58 F z h qs qt nn c s n bits mask met)
                have hlv : s + v57 = ft_lv (ov_tw58 F) c 1 s := by
                  rw [← ov_tw58_F I11 ft58]
                  show s + v57 = s + ov_wtv (h10 59 c) (h10 60 c) (h10 61 c) (h10 62 c) 1 s
                  omega
                refine ov_blk (ls2 := [(0, ov_r 46), (1, ov_i c), (2, ov_i s), (3, ov_i n), (4, ov_l bits), (6, ov_l mask), (8, ov_i met), (9, ov_i 1), (10, ov_i (s + v57))]) (st2 := [ov_r 46]) (pc2 := 131) b_189_127_3 rfl rfl ?_
                refine ov_getf (v := ov_r 4) d_189_131 fl_Ways_82 (zb_46 I11) (zs_46 I11) (congrArg ov_r e17) ?_
                refine ov_blk (ls2 := [(0, ov_r 46), (1, ov_i c), (2, ov_i s), (3, ov_i n), (4, ov_l bits), (6, ov_l mask), (8, ov_i met), (9, ov_i 1), (10, ov_i (s + v57))]) (st2 := [ov_i (s + v57), ov_i s, ov_i c, ov_r 4]) (pc2 := 138) b_189_134_3 rfl rfl ?_
                have cf60 : h10 4 (5) = h 4 (5) := congrFun E12 (5)
                refine ov_cV (as := [ov_i c, ov_i s, ov_i (s + v57)]) (st := []) (d2 := d - 1) d_189_138 lk_Ways_102 rfl (Nat.le_of_ble_eq_true rfl) (c := 7) (zb_4 I11) (zs_4 I11) ⟨by decide, rfl⟩ (by omega) (c_fState_sightingsWithin_4 qs qt nn (d - 1) (by omega) U I11 c s (s + v57) (by omega) (by omega) (by omega) (by show (h10 4 5) = nn; omega) (by rw [show h10 7 = h 7 from E13]; exact cq7) (by rw [show h10 8 = h 8 from E14]; exact cq8)) ?_
                rintro _ _ _ ⟨v61, rfl, rfl, rfl, f62⟩
                have f63 : v61 = ft_w qs qt c s (s + v57) (Int.toNat nn) ∧ -1 ≤ v61 ∧ v61 ≤ 8 := f62
                clear f62
                show ov_R u d ov_m189 141 [(0, ov_r 46), (1, ov_i c), (2, ov_i s), (3, ov_i n), (4, ov_l bits), (6, ov_l mask), (8, ov_i met), (9, ov_i 1), (10, ov_i (s + v57))] [ov_i v61] z9 h10 (P_fWays_trace_46_k46_3_58_k46_4_4_58 F z h qs qt nn c s n bits mask met)
                refine ov_blk (ls2 := [(0, ov_r 46), (1, ov_i c), (2, ov_i s), (3, ov_i n), (4, ov_l bits), (6, ov_l mask), (8, ov_i met), (9, ov_i 1), (10, ov_i (s + v57)), (11, ov_i v61)]) (st2 := [ov_i (-1), ov_i v61]) (pc2 := 146) b_189_141_3 rfl rfl ?_
                refine ov_iceq (tgt := 202) d_189_146 (by decide) (by omega) (by omega) (fun c64 => ?_) (fun c64 => ?_)
                · skip
                  refine ov_blk (ls2 := [(0, ov_r 46), (1, ov_i c), (2, ov_i s), (3, ov_i n), (4, ov_l bits), (6, ov_l mask), (8, ov_i met), (9, ov_i (1 + 1)), (10, ov_i (s + v57)), (11, ov_i v61)]) (st2 := []) (pc2 := 205) b_189_202_1 rfl rfl ?_
                  refine ov_goto (tgt := 90) d_189_205 (by decide) ?_
                  refine ov_sub (ls2 := [(0, ov_r 46), (1, ov_i c), (2, ov_i s), (3, ov_i n), (4, ov_l bits), (6, ov_l mask), (8, ov_i met), (9, ov_i (1 + 1))]) (List.Sublist.subset (by repeat (first | exact List.Sublist.refl _ | apply List.Sublist.cons_cons | apply List.Sublist.cons))) ?_
                  have tz : ft_H (h10 46) = (ft_g (ov_tw58 F) qs qt nn (ft_c (ov_tw58 F) qs qt nn (Int.toNat (13 - n))) c s n bits mask met) 1 (ft_H (h10 46)) := ft_g_mi (here := v61) (lv := s + v57) (by omega) hlv (by omega) (by omega)
                  exact ih6 (1 + 1) _ _ I11 E12 E13 E14 (fun a ca => (fr15 a ca)) e16 e17 (ft_u_2 (Eq.trans tz (congrArg ((ft_g (ov_tw58 F) qs qt nn (ft_c (ov_tw58 F) qs qt nn (Int.toNat (13 - n))) c s n bits mask met) 1) ya))) (by show 0 ≤ (1 + 1) ∧ (1 + 1) ≤ 2 ∧ ((1 + 1) = 0 ∧ (h10 46 0) = (h 46 0) ∨ (1 + 1) = 1 ∧ (h 46 0) ≤ (h10 46 0) ∧ (h10 46 0) ≤ (h 46 0) + ft_p (Int.toNat (13 - (n + 1))) ∨ (1 + 1) = 2 ∧ (h 46 0) ≤ (h10 46 0) ∧ (h10 46 0) ≤ (h 46 0) + ft_p (Int.toNat (13 - n))); omega) (by omega)
                · skip
                  refine ov_blk (ls2 := [(0, ov_r 46), (1, ov_i c), (2, ov_i s), (3, ov_i n), (4, ov_l bits), (6, ov_l mask), (8, ov_i met), (9, ov_i 1), (10, ov_i (s + v57)), (11, ov_i v61)]) (st2 := [ov_r 46]) (pc2 := 150) b_189_149_1 rfl rfl ?_
                  refine ov_getf (v := ov_r 58) d_189_150 fl_Ways_18 (zb_46 I11) (zs_46 I11) (congrArg ov_r e16) ?_
                  refine ov_blk (ls2 := [(0, ov_r 46), (1, ov_i c), (2, ov_i s), (3, ov_i n), (4, ov_l bits), (6, ov_l mask), (8, ov_i met), (9, ov_i 1), (10, ov_i (s + v57)), (11, ov_i v61)]) (st2 := [ov_i 1, ov_i c, ov_r 58]) (pc2 := 156) b_189_153_2 rfl rfl ?_
                  refine ov_cV (as := [ov_i c, ov_i 1]) (st := []) (d2 := d - 1) d_189_156 lk_Ways_42 rfl (Nat.le_of_ble_eq_true rfl) (c := 9) (zb_58 I11) (zs_58 I11) ⟨by decide, rfl⟩ (by omega) (c_Town_after_58 (d - 1) (by omega) U I11 c 1 (by omega) (by omega) (by show 0 ≤ c ∧ c ≤ 53; omega)) ?_
                  rintro _ _ _ ⟨v65, rfl, rfl, rfl, f66⟩
                  have f67 : ((1 : Int) = 0 → v65 = c + 1) ∧ (¬ (1 : Int) = 0 → v65 = c + 6) := f66
                  clear f66
                  show ov_R u d ov_m189 159 [(0, ov_r 46), (1, ov_i c), (2, ov_i s), (3, ov_i n), (4, ov_l bits), (6, ov_l mask), (8, ov_i met), (9, ov_i 1), (10, ov_i (s + v57)), (11, ov_i v61)] [ov_i v65] z9 h10 (P_fWays_trace_46_k46_3_58_k46_4_4_58 F z h qs qt nn c s n bits mask met)
                  have hnx : v65 = ov_nxc c 1 := by
                    show v65 = c + 6
                    omega
                  have hno := ov_nxc_le O (way := 1) p0 (Or.inr rfl) (by omega)
                  have fpm := ft_p_m (n := n)
                  refine ov_blk (ls2 := [(0, ov_r 46), (1, ov_i c), (2, ov_i s), (3, ov_i n), (4, ov_l bits), (6, ov_l mask), (8, ov_i met), (9, ov_i 1), (10, ov_i (s + v57)), (11, ov_i v61), (12, ov_i v65)]) (st2 := [ov_r 46, ov_i (s + v57), ov_i v65, ov_r 46]) (pc2 := 167) b_189_159_5 rfl rfl ?_
                  refine ov_getf (v := ov_r 58) d_189_167 fl_Ways_18 (zb_46 I11) (zs_46 I11) (congrArg ov_r e16) ?_
                  refine ov_getf (v := ov_r 64) d_189_170 fl_Ways_56 (zb_58 I11) (zs_58 I11) (congrArg ov_r (rg_58_7 I11)) ?_
                  refine ov_blk (ls2 := [(0, ov_r 46), (1, ov_i c), (2, ov_i s), (3, ov_i n), (4, ov_l bits), (6, ov_l mask), (8, ov_i met), (9, ov_i 1), (10, ov_i (s + v57)), (11, ov_i v61), (12, ov_i v65)]) (st2 := [ov_i 0, ov_r 64, ov_i (s + v57), ov_i v65, ov_r 46]) (pc2 := 174) b_189_173_1 rfl rfl ?_
                  refine ov_iald d_189_174 (zb_64 I11) (zs_64 I11) (by omega) ?_
                  show ov_R u d ov_m189 175 [(0, ov_r 46), (1, ov_i c), (2, ov_i s), (3, ov_i n), (4, ov_l bits), (6, ov_l mask), (8, ov_i met), (9, ov_i 1), (10, ov_i (s + v57)), (11, ov_i v61), (12, ov_i v65)] [ov_i (h10 64 0), ov_i (s + v57), ov_i v65, ov_r 46] z9 h10 (P_fWays_trace_46_k46_3_58_k46_4_4_58 F z h qs qt nn c s n bits mask met)
                  have g68 := ra_64 I11 0
                  refine ov_blk (ls2 := [(0, ov_r 46), (1, ov_i c), (2, ov_i s), (3, ov_i n), (4, ov_l bits), (6, ov_l mask), (8, ov_i met), (9, ov_i 1), (10, ov_i (s + v57)), (11, ov_i v61), (12, ov_i v65)]) (st2 := [ov_i (met + v61), ov_l (ov_lor mask (ov_lshl 1 v65)), ov_l (ov_lor bits (ov_lshl (ov_w 1) n)), ov_i (n + 1), ov_i ((s + v57) + (h10 64 0)), ov_i v65, ov_r 46]) (pc2 := 199) b_189_175_18 rfl rfl ?_
                  have g69 := ov_wg 1
                  have g70 := ov_wq 1
                  refine ov_cV (as := [ov_i v65, ov_i ((s + v57) + (h10 64 0)), ov_i (n + 1), ov_l (ov_lor bits (ov_lshl (ov_w 1) n)), ov_l (ov_lor mask (ov_lshl 1 v65)), ov_i (met + v61)]) (st := []) (d2 := d - 1) d_189_199 lk_Ways_97 rfl (Nat.le_of_ble_eq_true rfl) (c := 12) (zb_46 I11) (zs_46 I11) ⟨by decide, rfl⟩ (by omega) (HC (k - 1) (by omega) qs qt nn (d - 1) (by omega) U I11 v65 ((s + v57) + (h10 64 0)) (n + 1) (ov_lor bits (ov_lshl (ov_w 1) n)) (ov_lor mask (ov_lshl 1 v65)) (met + v61) e16 e17 (by omega) (by omega) (by omega) (by omega) (by show 0 ≤ v65 ∧ v65 ≤ 53; omega) (by show 0 ≤ (n + 1) ∧ (n + 1) + ((k - 1 : Nat) : Int) = 13; omega) (by show (h10 4 5) = nn; omega) (by show 0 ≤ ((s + v57) + (h10 64 0)) ∧ ((s + v57) + (h10 64 0)) + 100 * ((k - 1 : Nat) : Int) ≤ 2000; omega) (by show 0 ≤ (met + v61) ∧ (met + v61) + 10 * ((k - 1 : Nat) : Int) ≤ 200; omega) (by show 0 ≤ (h10 46 0) ∧ (h10 46 0) + ft_p (Int.toNat (13 - (n + 1))) ≤ 20000; omega) (by show 0 ≤ (h10 64 0); omega) (by show F (-5) 58 = 1; omega) (by rw [show h10 7 = h 7 from E13]; exact cq7) (by rw [show h10 8 = h 8 from E14]; exact cq8)) ?_
                  rintro _ z71 h72 ⟨rfl, I73, y74, f75, y76⟩
                  have E77 : h72 4 = h 4 := Eq.trans (y74 4 (by decide)) (show h10 4 = h 4 from E12)
                  have E78 : h72 7 = h 7 := Eq.trans (y74 7 (by decide)) (show h10 7 = h 7 from E13)
                  have E79 : h72 8 = h 8 := Eq.trans (y74 8 (by decide)) (show h10 8 = h 8 from E14)
                  have fr80 : ∀ a : Int, a ≠ 46 → h72 a = h a := fun a ca => Eq.trans (y74 a (by omega)) (fr15 a ca)
                  have f81 : (h10 46 0) ≤ (h72 46 0) ∧ (h72 46 0) ≤ (h10 46 0) + ft_p (Int.toNat (13 - (n + 1))) ∧ (h72 46 3) = 58 ∧ (h72 46 4) = 4 := f75
                  clear f75
                  have y76_ : ft_H (h72 46) = ft_c (ov_tw58 F) qs qt nn (Int.toNat (14 - (n + 1))) v65 ((s + v57) + (h10 64 0)) (n + 1) (ov_lor bits (ov_lshl (ov_w 1) n)) (ov_lor mask (ov_lshl 1 v65)) (met + v61) (ft_H (h10 46)) := y76
                  show ov_R u d ov_m189 202 [(0, ov_r 46), (1, ov_i c), (2, ov_i s), (3, ov_i n), (4, ov_l bits), (6, ov_l mask), (8, ov_i met), (9, ov_i 1), (10, ov_i (s + v57)), (11, ov_i v61), (12, ov_i v65)] [] z71 h72 (P_fWays_trace_46_k46_3_58_k46_4_4_58 F z h qs qt nn c s n bits mask met)
                  have e82 : h72 46 3 = 58 := by omega
                  have e83 : h72 46 4 = 4 := by omega
                  have tz : ft_H (h72 46) = (ft_g (ov_tw58 F) qs qt nn (ft_c (ov_tw58 F) qs qt nn (Int.toNat (13 - n))) c s n bits mask met) 1 (ft_H (h10 46)) := ft_g_go (here := v61) (lv := s + v57) (nx := v65) (t2 := ((s + v57) + (h10 64 0))) (k2 := (n + 1)) (b2 := (ov_lor bits (ov_lshl (ov_w 1) n))) (mm := (ov_lor mask (ov_lshl 1 v65))) (m2 := (met + v61)) (by omega) hlv (by omega) (by omega) hnx (congrArg (fun f : ov_TW => s + v57 + f.2.2.2.2.2.1 0) (ov_tw58_F I11 ft58)) rfl rfl rfl rfl (Eq.trans y76_ (by rw [show Int.toNat (14 - (n + 1)) = Int.toNat (13 - n) by omega]))
                  refine ov_blk (ls2 := [(0, ov_r 46), (1, ov_i c), (2, ov_i s), (3, ov_i n), (4, ov_l bits), (6, ov_l mask), (8, ov_i met), (9, ov_i (1 + 1)), (10, ov_i (s + v57)), (11, ov_i v61), (12, ov_i v65)]) (st2 := []) (pc2 := 205) b_189_202_1 rfl rfl ?_
                  refine ov_goto (tgt := 90) d_189_205 (by decide) ?_
                  refine ov_sub (ls2 := [(0, ov_r 46), (1, ov_i c), (2, ov_i s), (3, ov_i n), (4, ov_l bits), (6, ov_l mask), (8, ov_i met), (9, ov_i (1 + 1))]) (List.Sublist.subset (by repeat (first | exact List.Sublist.refl _ | apply List.Sublist.cons_cons | apply List.Sublist.cons))) ?_
                  exact ih6 (1 + 1) _ _ I73 E77 E78 E79 (fun a ca => (fr80 a ca)) e82 e83 (ft_u_2 (Eq.trans tz (congrArg ((ft_g (ov_tw58 F) qs qt nn (ft_c (ov_tw58 F) qs qt nn (Int.toNat (13 - n))) c s n bits mask met) 1) ya))) (by show 0 ≤ (1 + 1) ∧ (1 + 1) ≤ 2 ∧ ((1 + 1) = 0 ∧ (h72 46 0) = (h 46 0) ∨ (1 + 1) = 1 ∧ (h 46 0) ≤ (h72 46 0) ∧ (h72 46 0) ≤ (h 46 0) + ft_p (Int.toNat (13 - (n + 1))) ∨ (1 + 1) = 2 ∧ (h 46 0) ≤ (h72 46 0) ∧ (h72 46 0) ≤ (h 46 0) + ft_p (Int.toNat (13 - n))); omega) (by omega)
    exact L8 3 0 _ _ I rfl rfl rfl (fun a ca => rfl) k0 k1 (ft_u_0.symm) (by show 0 ≤ 0 ∧ 0 ≤ 2 ∧ (0 = 0 ∧ (h 46 0) = (h 46 0) ∨ 0 = 1 ∧ (h 46 0) ≤ (h 46 0) ∧ (h 46 0) ≤ (h 46 0) + ft_p (Int.toNat (13 - (n + 1))) ∨ 0 = 2 ∧ (h 46 0) ≤ (h 46 0) ∧ (h 46 0) ≤ (h 46 0) + ft_p (Int.toNat (13 - n))); omega) (by omega)
  · skip
    refine ov_blk (ls2 := [(0, ov_r 46), (1, ov_i c), (2, ov_i s), (3, ov_i n), (4, ov_l bits), (6, ov_l mask), (8, ov_i met)]) (st2 := [ov_r 46]) (pc2 := 12) b_189_11_1 rfl rfl ?_
    refine ov_getf (v := ov_r 4) d_189_12 fl_Ways_82 (zb_46 I) (zs_46 I) (congrArg ov_r k1) ?_
    refine ov_blk (ls2 := [(0, ov_r 46), (1, ov_i c), (2, ov_i s), (3, ov_i n), (4, ov_l bits), (6, ov_l mask), (8, ov_i met)]) (st2 := [ov_i s, ov_i c, ov_r 4]) (pc2 := 17) b_189_15_2 rfl rfl ?_
    refine ov_ldc (n := 2147483647) d_189_17 kc_Ways_101 ?_
    refine ov_cV (as := [ov_i c, ov_i s, ov_i 2147483647]) (st := []) (d2 := d - 1) d_189_19 lk_Ways_102 rfl (Nat.le_of_ble_eq_true rfl) (c := 7) (zb_4 I) (zs_4 I) ⟨by decide, rfl⟩ (by omega) (c_fState_sightingsWithin_4 qs qt nn (d - 1) (by omega) U I c s 2147483647 (by omega) (by omega) (by omega) (by show (h 4 5) = nn; omega) cq7 cq8) ?_
    rintro _ _ _ ⟨v84, rfl, rfl, rfl, f85⟩
    have f86 : v84 = ft_w qs qt c s (2147483647 : Int) (Int.toNat nn) ∧ -1 ≤ v84 ∧ v84 ≤ 8 := f85
    clear f85
    show ov_R u d ov_m189 22 [(0, ov_r 46), (1, ov_i c), (2, ov_i s), (3, ov_i n), (4, ov_l bits), (6, ov_l mask), (8, ov_i met)] [ov_i v84] z h (P_fWays_trace_46_k46_3_58_k46_4_4_58 F z h qs qt nn c s n bits mask met)
    refine ov_blk (ls2 := [(0, ov_r 46), (1, ov_i c), (2, ov_i s), (3, ov_i n), (4, ov_l bits), (6, ov_l mask), (8, ov_i met), (9, ov_i v84)]) (st2 := [ov_i (-1), ov_i v84]) (pc2 := 27) b_189_22_3 rfl rfl ?_
    refine ov_iceq (tgt := 86) d_189_27 (by decide) (by omega) (by omega) (fun c87 => ?_) (fun c87 => ?_)
    · skip
      exact ov_retv (st := []) d_189_86 rfl ⟨rfl, I, (fun a ca => rfl), (by show (h 46 0) ≤ (h 46 0) ∧ (h 46 0) ≤ (h 46 0) + ft_p (Int.toNat (13 - n)) ∧ (h 46 3) = 58 ∧ (h 46 4) = 4; omega), (ft_c_h (by omega) (by omega) (ft_lf_0 (by omega)))⟩
    · skip
      refine ov_blk (ls2 := [(0, ov_r 46), (1, ov_i c), (2, ov_i s), (3, ov_i n), (4, ov_l bits), (6, ov_l mask), (8, ov_i met), (9, ov_i v84)]) (st2 := [ov_r 46, ov_i (met + v84)]) (pc2 := 36) b_189_30_4 rfl rfl ?_
      refine ov_getf (v := ov_r 4) d_189_36 fl_Ways_82 (zb_46 I) (zs_46 I) (congrArg ov_r k1) ?_
      refine ov_getf (v := ov_i (h 4 5)) d_189_39 fl_Ways_107 (zb_4 I) (zs_4 I) rfl ?_
      have g88 := rg_4_5 I
      refine ov_icne (tgt := 86) d_189_42 (by decide) (by omega) (by omega) (fun c89 => ?_) (fun c89 => ?_)
      · skip
        exact ov_retv (st := []) d_189_86 rfl ⟨rfl, I, (fun a ca => rfl), (by show (h 46 0) ≤ (h 46 0) ∧ (h 46 0) ≤ (h 46 0) + ft_p (Int.toNat (13 - n)) ∧ (h 46 3) = 58 ∧ (h 46 4) = 4; omega), (ft_c_h (by omega) (by omega) (ft_lf_0 (by omega)))⟩
      · skip
        refine ov_blk (ls2 := [(0, ov_r 46), (1, ov_i c), (2, ov_i s), (3, ov_i n), (4, ov_l bits), (6, ov_l mask), (8, ov_i met), (9, ov_i v84)]) (st2 := [ov_r 46, ov_r 46]) (pc2 := 47) b_189_45_2 rfl rfl ?_
        refine ov_getf (v := ov_i (h 46 0)) d_189_47 fl_Ways_86 (zb_46 I) (zs_46 I) rfl ?_
        have g90 := rg_46_0 I
        refine ov_ifne (tgt := 58) d_189_50 (by decide) (by omega) (fun c91 => ?_) (fun c91 => ?_)
        · skip
          refine ov_blk (ls2 := [(0, ov_r 46), (1, ov_i c), (2, ov_i s), (3, ov_i n), (4, ov_l bits), (6, ov_l mask), (8, ov_i met), (9, ov_i v84)]) (st2 := [ov_r 46, ov_r 46]) (pc2 := 59) b_189_58_1 rfl rfl ?_
          refine ov_getf (v := ov_l (h 46 1)) d_189_59 fl_Ways_89 (zb_46 I) (zs_46 I) rfl ?_
          refine ov_putf (x := (h 46 1)) d_189_62 fl_Ways_89 (zb_46 I) (zs_46 I) rfl nk_1 rfl ?_
          have I92 := up_46_1 (x := (h 46 1)) I
          show ov_R u d ov_m189 65 [(0, ov_r 46), (1, ov_i c), (2, ov_i s), (3, ov_i n), (4, ov_l bits), (6, ov_l mask), (8, ov_i met), (9, ov_i v84)] [] z (ov_up h 46 1 (h 46 1)) (P_fWays_trace_46_k46_3_58_k46_4_4_58 F z h qs qt nn c s n bits mask met)
          refine ov_blk (ls2 := [(0, ov_r 46), (1, ov_i c), (2, ov_i s), (3, ov_i n), (4, ov_l bits), (6, ov_l mask), (8, ov_i met), (9, ov_i v84)]) (st2 := [ov_r 46, ov_r 46]) (pc2 := 67) b_189_65_2 rfl rfl ?_
          refine ov_getf (v := ov_i (h 46 0)) d_189_67 fl_Ways_86 (zb_46 I92) (zs_46 I92) rfl ?_
          refine ov_blk (ls2 := [(0, ov_r 46), (1, ov_i c), (2, ov_i s), (3, ov_i n), (4, ov_l bits), (6, ov_l mask), (8, ov_i met), (9, ov_i v84)]) (st2 := [ov_i ((h 46 0) + 1), ov_r 46]) (pc2 := 72) b_189_70_2 rfl rfl ?_
          refine ov_putf (x := ((h 46 0) + 1)) d_189_72 fl_Ways_86 (zb_46 I92) (zs_46 I92) rfl nk_0 rfl ?_
          have I94 := up_46_0 (x := ((h 46 0) + 1)) I92 (by omega)
          show ov_R u d ov_m189 75 [(0, ov_r 46), (1, ov_i c), (2, ov_i s), (3, ov_i n), (4, ov_l bits), (6, ov_l mask), (8, ov_i met), (9, ov_i v84)] [] z (ov_up (ov_up h 46 1 (h 46 1)) 46 0 ((h 46 0) + 1)) (P_fWays_trace_46_k46_3_58_k46_4_4_58 F z h qs qt nn c s n bits mask met)
          refine ov_blk (ls2 := [(0, ov_r 46), (1, ov_i c), (2, ov_i s), (3, ov_i n), (4, ov_l bits), (6, ov_l mask), (8, ov_i met), (9, ov_i v84)]) (st2 := [ov_r 46, ov_r 46]) (pc2 := 77) b_189_75_2 rfl rfl ?_
          refine ov_getf (v := ov_l (h 46 2)) d_189_77 fl_Ways_95 (zb_46 I94) (zs_46 I94) rfl ?_
          refine ov_blk (ls2 := [(0, ov_r 46), (1, ov_i c), (2, ov_i s), (3, ov_i n), (4, ov_l bits), (6, ov_l mask), (8, ov_i met), (9, ov_i v84)]) (st2 := [ov_l (ov_land (h 46 2) mask), ov_r 46]) (pc2 := 83) b_189_80_2 rfl rfl ?_
          refine ov_putf (x := (ov_land (h 46 2) mask)) d_189_83 fl_Ways_95 (zb_46 I94) (zs_46 I94) rfl nk_1 rfl ?_
          have I95 := up_46_2 (x := (ov_land (h 46 2) mask)) I94
          show ov_R u d ov_m189 86 [(0, ov_r 46), (1, ov_i c), (2, ov_i s), (3, ov_i n), (4, ov_l bits), (6, ov_l mask), (8, ov_i met), (9, ov_i v84)] [] z (ov_up (ov_up (ov_up h 46 1 (h 46 1)) 46 0 ((h 46 0) + 1)) 46 2 (ov_land (h 46 2) mask)) (P_fWays_trace_46_k46_3_58_k46_4_4_58 F z h qs qt nn c s n bits mask met)
          exact ov_retv (st := []) d_189_86 rfl ⟨rfl, I95, (fun a ca => Eq.trans (by show (ov_up (ov_up (ov_up h 46 1 (h 46 1)) 46 0 ((h 46 0) + 1)) 46 2 (ov_land (h 46 2) mask)) a = h a; rw [ov_up_ne (by omega), ov_up_ne (by omega), ov_up_ne (by omega)]) rfl), (by show (h 46 0) ≤ ((h 46 0) + 1) ∧ ((h 46 0) + 1) ≤ (h 46 0) + ft_p (Int.toNat (13 - n)) ∧ (h 46 3) = 58 ∧ (h 46 4) = 4; omega), (ft_c_h (by omega) (by omega) (show (((h 46 0) + 1), (h 46 1), (ov_land (h 46 2) mask)) = _ from ft_lf_1 (by omega) (by omega) rfl (Or.inr ⟨(by show ¬ h 46 0 = 0; omega), rfl⟩) rfl))⟩
        · skip
          refine ov_blk (ls2 := [(0, ov_r 46), (1, ov_i c), (2, ov_i s), (3, ov_i n), (4, ov_l bits), (6, ov_l mask), (8, ov_i met), (9, ov_i v84)]) (st2 := [ov_l bits, ov_r 46]) (pc2 := 55) b_189_53_1 rfl rfl ?_
          refine ov_goto (tgt := 62) d_189_55 (by decide) ?_
          refine ov_putf (x := bits) d_189_62 fl_Ways_89 (zb_46 I) (zs_46 I) rfl nk_1 rfl ?_
          have I96 := up_46_1 (x := bits) I
          show ov_R u d ov_m189 65 [(0, ov_r 46), (1, ov_i c), (2, ov_i s), (3, ov_i n), (4, ov_l bits), (6, ov_l mask), (8, ov_i met), (9, ov_i v84)] [] z (ov_up h 46 1 bits) (P_fWays_trace_46_k46_3_58_k46_4_4_58 F z h qs qt nn c s n bits mask met)
          refine ov_blk (ls2 := [(0, ov_r 46), (1, ov_i c), (2, ov_i s), (3, ov_i n), (4, ov_l bits), (6, ov_l mask), (8, ov_i met), (9, ov_i v84)]) (st2 := [ov_r 46, ov_r 46]) (pc2 := 67) b_189_65_2 rfl rfl ?_
          refine ov_getf (v := ov_i (h 46 0)) d_189_67 fl_Ways_86 (zb_46 I96) (zs_46 I96) rfl ?_
          refine ov_blk (ls2 := [(0, ov_r 46), (1, ov_i c), (2, ov_i s), (3, ov_i n), (4, ov_l bits), (6, ov_l mask), (8, ov_i met), (9, ov_i v84)]) (st2 := [ov_i ((h 46 0) + 1), ov_r 46]) (pc2 := 72) b_189_70_2 rfl rfl ?_
          refine ov_putf (x := ((h 46 0) + 1)) d_189_72 fl_Ways_86 (zb_46 I96) (zs_46 I96) rfl nk_0 rfl ?_
          have I98 := up_46_0 (x := ((h 46 0) + 1)) I96 (by omega)
          show ov_R u d ov_m189 75 [(0, ov_r 46), (1, ov_i c), (2, ov_i s), (3, ov_i n), (4, ov_l bits), (6, ov_l mask), (8, ov_i met), (9, ov_i v84)] [] z (ov_up (ov_up h 46 1 bits) 46 0 ((h 46 0) + 1)) (P_fWays_trace_46_k46_3_58_k46_4_4_58 F z h qs qt nn c s n bits mask met)
          refine ov_blk (ls2 := [(0, ov_r 46), (1, ov_i c), (2, ov_i s), (3, ov_i n), (4, ov_l bits), (6, ov_l mask), (8, ov_i met), (9, ov_i v84)]) (st2 := [ov_r 46, ov_r 46]) (pc2 := 77) b_189_75_2 rfl rfl ?_
          refine ov_getf (v := ov_l (h 46 2)) d_189_77 fl_Ways_95 (zb_46 I98) (zs_46 I98) rfl ?_
          refine ov_blk (ls2 := [(0, ov_r 46), (1, ov_i c), (2, ov_i s), (3, ov_i n), (4, ov_l bits), (6, ov_l mask), (8, ov_i met), (9, ov_i v84)]) (st2 := [ov_l (ov_land (h 46 2) mask), ov_r 46]) (pc2 := 83) b_189_80_2 rfl rfl ?_
          refine ov_putf (x := (ov_land (h 46 2) mask)) d_189_83 fl_Ways_95 (zb_46 I98) (zs_46 I98) rfl nk_1 rfl ?_
          have I99 := up_46_2 (x := (ov_land (h 46 2) mask)) I98
          show ov_R u d ov_m189 86 [(0, ov_r 46), (1, ov_i c), (2, ov_i s), (3, ov_i n), (4, ov_l bits), (6, ov_l mask), (8, ov_i met), (9, ov_i v84)] [] z (ov_up (ov_up (ov_up h 46 1 bits) 46 0 ((h 46 0) + 1)) 46 2 (ov_land (h 46 2) mask)) (P_fWays_trace_46_k46_3_58_k46_4_4_58 F z h qs qt nn c s n bits mask met)
          exact ov_retv (st := []) d_189_86 rfl ⟨rfl, I99, (fun a ca => Eq.trans (by show (ov_up (ov_up (ov_up h 46 1 bits) 46 0 ((h 46 0) + 1)) 46 2 (ov_land (h 46 2) mask)) a = h a; rw [ov_up_ne (by omega), ov_up_ne (by omega), ov_up_ne (by omega)]) rfl), (by show (h 46 0) ≤ ((h 46 0) + 1) ∧ ((h 46 0) + 1) ≤ (h 46 0) + ft_p (Int.toNat (13 - n)) ∧ (h 46 3) = 58 ∧ (h 46 4) = 4; omega), (ft_c_h (by omega) (by omega) (show (((h 46 0) + 1), bits, (ov_land (h 46 2) mask)) = _ from ft_lf_1 (by omega) (by omega) rfl (Or.inl ⟨(by show h 46 0 = 0; omega), rfl⟩) rfl))⟩
theorem c_fWays_trace_46_k46_3_58_k46_4_4_58_all {u : ov_U} {F : ov_H} (ft58 : ov_fT 58 F) (k : Nat) : ∀ {z : ov_Z} {h : ov_H} (qs qt : Int → Int) (nn : Int) (d : Nat) (hd : (10 + 1 * k ) ≤ d) (U : ov_cap u) (I : ov_I F z h) (c : Int) (s : Int) (n : Int) (bits : Int) (mask : Int) (met : Int) (k0 : h 46 3 = 58) (k1 : h 46 4 = 4) (g_c : ov_g c) (g_s : ov_g s) (g_n : ov_g n) (g_met : ov_g met) (p0 : 0 ≤ c ∧ c ≤ 53) (p1 : 0 ≤ n ∧ n + (k : Int) = 13) (p2 : (h 4 5) = nn) (p3 : 0 ≤ s ∧ s + 100 * (k : Int) ≤ 2000) (p4 : 0 ≤ met ∧ met + 10 * (k : Int) ≤ 200) (p5 : 0 ≤ (h 46 0) ∧ (h 46 0) + ft_p (Int.toNat (13 - n)) ≤ 20000) (p6 : 0 ≤ (h 64 0)) (p7 : F (-5) 58 = 1) (cq7 : (h 7) = qs) (cq8 : (h 8) = qt), ov_T u d ov_m189 [ov_r 46, ov_i c, ov_i s, ov_i n, ov_l bits, ov_l mask, ov_i met] z h (P_fWays_trace_46_k46_3_58_k46_4_4_58 F z h qs qt nn c s n bits mask met) := by
  induction k using Nat.strongRecOn with
  | ind k ih => exact fun {z} {h} qs qt nn => @c_fWays_trace_46_k46_3_58_k46_4_4_58 u F qs qt nn ft58 k (fun k' hk => @ih k' hk) z h
abbrev P_fWays_fitSightings_46_58_4 (F : ov_H) (z : ov_Z) (h : ov_H) (qs : Int → Int) (qt : Int → Int) (nn : Int) : Option ov_V → ov_Z → ov_H → Prop := fun r0 z' h' => r0 = none ∧ ov_I F z' h' ∧ (∀ a : Int, a ≠ 46 → h' a = h a) ∧ (0 ≤ (h' 46 0) ∧ (h' 46 0) ≤ 8192 ∧ (h' 46 3) = 58 ∧ (h' 46 4) = 4) ∧ (ft_H (h' 46) = ft_c (ov_tw58 F) qs qt nn 14 0 0 0 0 1 0 (0, 0, -1))
set_option maxHeartbeats 4000000 in
theorem c_fWays_fitSightings_46_58_4 {u : ov_U} {F : ov_H} (qs : Int → Int) (qt : Int → Int) (nn : Int) (ft58 : ov_fT 58 F) {z : ov_Z} {h : ov_H} (d : Nat) (hd : 30 ≤ d) (U : ov_cap u) (I : ov_I F z h) (p0 : (h 4 5) = nn) (p1 : 0 ≤ (h 64 0)) (p2 : F (-5) 58 = 1) (cq7 : (h 7) = qs) (cq8 : (h 8) = qt) : ov_T u d ov_m188 [ov_r 46, ov_r 58, ov_r 4] z h (P_fWays_fitSightings_46_58_4 F z h qs qt nn) := by
  refine ov_en rfl (Nat.le_of_ble_eq_true rfl) ?_
  show ov_R u d ov_m188 0 [(0, ov_r 46), (1, ov_r 58), (2, ov_r 4)] [] z h (P_fWays_fitSightings_46_58_4 F z h qs qt nn)
  have fp13 := ft_p_13
  refine ov_blk (ls2 := [(0, ov_r 46), (1, ov_r 58), (2, ov_r 4)]) (st2 := [ov_r 58, ov_r 46]) (pc2 := 2) b_188_0_2 rfl rfl ?_
  refine ov_putf (x := 58) d_188_2 fl_Ways_18 (zb_46 I) (zs_46 I) rfl nk_2 rfl ?_
  have I1 := up_46_3 (x := 58) I (by omega)
  show ov_R u d ov_m188 5 [(0, ov_r 46), (1, ov_r 58), (2, ov_r 4)] [] z (ov_up h 46 3 58) (P_fWays_fitSightings_46_58_4 F z h qs qt nn)
  refine ov_blk (ls2 := [(0, ov_r 46), (1, ov_r 58), (2, ov_r 4)]) (st2 := [ov_r 4, ov_r 46]) (pc2 := 7) b_188_5_2 rfl rfl ?_
  refine ov_putf (x := 4) d_188_7 fl_Ways_82 (zb_46 I1) (zs_46 I1) rfl nk_2 rfl ?_
  have I2 := up_46_4 (x := 4) I1 (by omega)
  show ov_R u d ov_m188 10 [(0, ov_r 46), (1, ov_r 58), (2, ov_r 4)] [] z (ov_up (ov_up h 46 3 58) 46 4 4) (P_fWays_fitSightings_46_58_4 F z h qs qt nn)
  refine ov_blk (ls2 := [(0, ov_r 46), (1, ov_r 58), (2, ov_r 4)]) (st2 := [ov_i 0, ov_r 46]) (pc2 := 12) b_188_10_2 rfl rfl ?_
  refine ov_putf (x := 0) d_188_12 fl_Ways_86 (zb_46 I2) (zs_46 I2) rfl nk_0 rfl ?_
  have I3 := up_46_0 (x := 0) I2 (by omega)
  show ov_R u d ov_m188 15 [(0, ov_r 46), (1, ov_r 58), (2, ov_r 4)] [] z (ov_up (ov_up (ov_up h 46 3 58) 46 4 4) 46 0 0) (P_fWays_fitSightings_46_58_4 F z h qs qt nn)
  refine ov_blk (ls2 := [(0, ov_r 46), (1, ov_r 58), (2, ov_r 4)]) (st2 := [ov_l 0, ov_r 46]) (pc2 := 17) b_188_15_2 rfl rfl ?_
  refine ov_putf (x := 0) d_188_17 fl_Ways_89 (zb_46 I3) (zs_46 I3) rfl nk_1 rfl ?_
  have I4 := up_46_1 (x := 0) I3
  show ov_R u d ov_m188 20 [(0, ov_r 46), (1, ov_r 58), (2, ov_r 4)] [] z (ov_up (ov_up (ov_up (ov_up h 46 3 58) 46 4 4) 46 0 0) 46 1 0) (P_fWays_fitSightings_46_58_4 F z h qs qt nn)
  refine ov_blk (ls2 := [(0, ov_r 46), (1, ov_r 58), (2, ov_r 4)]) (st2 := [ov_r 46]) (pc2 := 21) b_188_20_1 rfl rfl ?_
  refine ov_ldc2 (n := (-1)) d_188_21 kc_Ways_93 ?_
  refine ov_putf (x := (-1)) d_188_24 fl_Ways_95 (zb_46 I4) (zs_46 I4) rfl nk_1 rfl ?_
  have I5 := up_46_2 (x := (-1)) I4
  show ov_R u d ov_m188 27 [(0, ov_r 46), (1, ov_r 58), (2, ov_r 4)] [] z (ov_up (ov_up (ov_up (ov_up (ov_up h 46 3 58) 46 4 4) 46 0 0) 46 1 0) 46 2 (-1)) (P_fWays_fitSightings_46_58_4 F z h qs qt nn)
  refine ov_blk (ls2 := [(0, ov_r 46), (1, ov_r 58), (2, ov_r 4)]) (st2 := [ov_i 0, ov_l 1, ov_l 0, ov_i 0, ov_i 0, ov_i 0, ov_r 46]) (pc2 := 34) b_188_27_7 rfl rfl ?_
  refine ov_cV (as := [ov_i 0, ov_i 0, ov_i 0, ov_l 0, ov_l 1, ov_i 0]) (st := []) (d2 := d - 1) d_188_34 lk_Ways_97 rfl (Nat.le_of_ble_eq_true rfl) (c := 12) (zb_46 I5) (zs_46 I5) ⟨by decide, rfl⟩ (by omega) (c_fWays_trace_46_k46_3_58_k46_4_4_58_all ft58 13 qs qt nn (d - 1) (by omega) U I5 0 0 0 0 1 0 rfl rfl (by omega) (by omega) (by omega) (by omega) (by show 0 ≤ (0 : Int) ∧ (0 : Int) ≤ 53; omega) (by show 0 ≤ (0 : Int) ∧ (0 : Int) + ((13 : Nat) : Int) = 13; omega) (by show (h 4 5) = nn; omega) (by show 0 ≤ (0 : Int) ∧ (0 : Int) + 100 * ((13 : Nat) : Int) ≤ 2000; omega) (by show 0 ≤ (0 : Int) ∧ (0 : Int) + 10 * ((13 : Nat) : Int) ≤ 200; omega) (by show 0 ≤ 0 ∧ 0 + ft_p (Int.toNat (13 - (0 : Int))) ≤ 20000; omega) (by show 0 ≤ (h 64 0); omega) (by show F (-5) 58 = 1; omega) (by rw [show (ov_up (ov_up (ov_up (ov_up (ov_up h 46 3 58) 46 4 4) 46 0 0) 46 1 0) 46 2 (-1)) 7 = h 7 from rfl]; exact cq7) (by rw [show (ov_up (ov_up (ov_up (ov_up (ov_up h 46 3 58) 46 4 4) 46 0 0) 46 1 0) 46 2 (-1)) 8 = h 8 from rfl]; exact cq8)) ?_
  rintro _ z6 h7 ⟨rfl, I8, y9, f10, y11⟩
  have E12 : h7 4 = h 4 := Eq.trans (y9 4 (by decide)) (show (ov_up (ov_up (ov_up (ov_up (ov_up h 46 3 58) 46 4 4) 46 0 0) 46 1 0) 46 2 (-1)) 4 = h 4 from rfl)
  have E13 : h7 7 = h 7 := Eq.trans (y9 7 (by decide)) (show (ov_up (ov_up (ov_up (ov_up (ov_up h 46 3 58) 46 4 4) 46 0 0) 46 1 0) 46 2 (-1)) 7 = h 7 from rfl)
  have E14 : h7 8 = h 8 := Eq.trans (y9 8 (by decide)) (show (ov_up (ov_up (ov_up (ov_up (ov_up h 46 3 58) 46 4 4) 46 0 0) 46 1 0) 46 2 (-1)) 8 = h 8 from rfl)
  have fr15 : ∀ a : Int, a ≠ 46 → h7 a = h a := fun a ca => Eq.trans (y9 a (by omega)) (Eq.trans (by show (ov_up (ov_up (ov_up (ov_up (ov_up h 46 3 58) 46 4 4) 46 0 0) 46 1 0) 46 2 (-1)) a = h a; rw [ov_up_ne (by omega), ov_up_ne (by omega), ov_up_ne (by omega), ov_up_ne (by omega), ov_up_ne (by omega)]) rfl)
  have f16 : 0 ≤ (h7 46 0) ∧ (h7 46 0) ≤ 0 + ft_p (Int.toNat (13 - (0 : Int))) ∧ (h7 46 3) = 58 ∧ (h7 46 4) = 4 := f10
  clear f10
  have y11_ : ft_H (h7 46) = ft_c (ov_tw58 F) qs qt nn (Int.toNat (14 - (0 : Int))) (0 : Int) (0 : Int) (0 : Int) (0 : Int) (1 : Int) (0 : Int) (ft_H ((ov_up (ov_up (ov_up (ov_up (ov_up h 46 3 58) 46 4 4) 46 0 0) 46 1 0) 46 2 (-1)) 46)) := y11
  show ov_R u d ov_m188 37 [(0, ov_r 46), (1, ov_r 58), (2, ov_r 4)] [] z6 h7 (P_fWays_fitSightings_46_58_4 F z h qs qt nn)
  exact ov_retv (st := []) d_188_37 rfl ⟨rfl, I8, (fun a ca => (fr15 a ca)), (by show 0 ≤ (h7 46 0) ∧ (h7 46 0) ≤ 8192 ∧ (h7 46 3) = 58 ∧ (h7 46 4) = 4; omega), (Eq.trans y11_ (show ft_c (ov_tw58 F) qs qt nn (Int.toNat (14 - 0)) 0 0 0 0 1 0 (0, 0, -1) = ft_c (ov_tw58 F) qs qt nn 14 0 0 0 0 1 0 (0, 0, -1) from rfl))⟩
theorem c_Ways_fitSightings_46_58_t {u : ov_U} {F : ov_H} (ft58 : ov_fT 58 F) {z : ov_Z} {h : ov_H} (d : Nat) (hd : 30 ≤ d) (U : ov_cap u) (I : ov_I F z h) (p0 : 0 ≤ h 64 0) (p1 : F (-5) 58 = 1) : ov_T u d ov_m188 [ov_r 46, ov_r 58, ov_r 4] z h (fun r0 z' h' => r0 = none ∧ ov_I F z' h' ∧ (0 ≤ (h' 46 0) ∧ (h' 46 0) ≤ 8192 ∧ (h' 46 3) = 58 ∧ (h' 46 4) = 4 ∧ (h' 36 7) = (h 36 7) ∧ (h' 1 1) = (h 1 1) ∧ (h' 90 2) = (h 90 2) ∧ (h' 0 10) = (h 0 10) ∧ (h' 0 11) = (h 0 11) ∧ (h' 0 12) = (h 0 12) ∧ (h' 0 13) = (h 0 13) ∧ (h' 3 1) = (h 3 1) ∧ (h' 36 8) = (h 36 8) ∧ (h' 49 4) = (h 49 4) ∧ (h' 49 5) = (h 49 5) ∧ (h' 64 0) = (h 64 0) ∧ (h' 76 0) = (h 76 0)) ∧ ft_H (h' 46) = ft_c (ov_tw58 F) (h 7) (h 8) (h 4 5) 14 0 0 0 0 1 0 (0, 0, -1)) := by
  refine ov_T_wk (c_fWays_fitSightings_46_58_4 (h 7) (h 8) (h 4 5) ft58 d hd U I rfl p0 p1 rfl rfl) ?_
  rintro r0 z' h' ⟨e, I', E, ⟨x1, x2, x3, x4⟩, tf⟩
  have E2 : ∀ a : Int, a ≠ 46 → h' a = h a := E
  exact ⟨e, I', ⟨x1, x2, x3, x4, congrFun (E2 36 (by decide)) 7, congrFun (E2 1 (by decide)) 1, congrFun (E2 90 (by decide)) 2, congrFun (E2 0 (by decide)) 10, congrFun (E2 0 (by decide)) 11, congrFun (E2 0 (by decide)) 12, congrFun (E2 0 (by decide)) 13, congrFun (E2 3 (by decide)) 1, congrFun (E2 36 (by decide)) 8, congrFun (E2 49 (by decide)) 4, congrFun (E2 49 (by decide)) 5, congrFun (E2 64 (by decide)) 0, congrFun (E2 76 (by decide)) 0⟩, tf⟩

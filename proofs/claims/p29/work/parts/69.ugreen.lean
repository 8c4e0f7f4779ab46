/-! green and until, as functions of the town -/
def ov_mayf (f : Int → Int) (x y way s : Int) : Prop := 0 ≤ x ∧ x < f 0 ∧ 0 ≤ y ∧ y < f 1 ∧ 0 ≤ way ∧ way ≤ 1 ∧ 0 ≤ s ∧ s ≤ 1000000 ∧ ov_cgi f x y way = 1
noncomputable def ov_ite (P : Prop) (a b : Int) : Int := @ite Int P (Classical.propDecidable P) a b
theorem ov_ite_t {P : Prop} {a b : Int} (h : P) : ov_ite P a b = a := by
  unfold ov_ite
  rw [if_pos h]
theorem ov_ite_f {P : Prop} {a b : Int} (h : ¬ P) : ov_ite P a b = b := by
  unfold ov_ite
  rw [if_neg h]
def ov_gri (f : Int → Int) (c way s : Int) : Int := if f (10 + 4 * c) = 3 then (if way = 1 then 1 else 0) else if f (10 + 4 * c) = 1 ∨ f (10 + 4 * c) = 2 then (if ov_ph s (f (10 + 4 * c + 2)) (f (10 + 4 * c + 1)) < f (10 + 4 * c + 3) then (if way = 0 then 1 else 0) else (if way = 0 then 0 else 1)) else 1
noncomputable def ov_grm (f : Int → Int) (x y way s : Int) : Int := ov_ite (ov_mayf f x y way s) (ov_gri f (6 * y + x) way s) (-1)
noncomputable def ov_unm (f : Int → Int) (x y way s : Int) : Int := ov_ite (ov_mayf f x y way s) (ov_wm f (6 * y + x) way s) (-1)
def ov_mayc (r0 r7 : Int → Int) (x y way s : Int) : Prop := 0 ≤ x ∧ x < r0 0 ∧ 0 ≤ y ∧ y < r0 1 ∧ 0 ≤ s ∧ s ≤ 1000000 ∧ (way = 0 ∧ r7 (6 * y + x) % 2 = 1 ∨ way = 1 ∧ r7 (6 * y + x) / 2 = 1)
def ov_gci (r1 r2 r3 r4 : Int → Int) (c way s : Int) : Int := if r1 c = 2 then (if way = 1 then 1 else 0) else if ov_wtv (r1 c) (r2 c) (r3 c) (r4 c) way s = 0 then 1 else 0
noncomputable def ov_grc (r0 r1 r2 r3 r4 r7 : Int → Int) (x y way s : Int) : Int := ov_ite (ov_mayc r0 r7 x y way s) (ov_gci r1 r2 r3 r4 (6 * y + x) way s) (-1)
noncomputable def ov_unc (r0 r1 r2 r3 r4 r7 : Int → Int) (x y way s : Int) : Int := ov_ite (ov_mayc r0 r7 x y way s) (ov_wtv (r1 (6 * y + x)) (r2 (6 * y + x)) (r3 (6 * y + x)) (r4 (6 * y + x)) way s) (-1)
section
variable {f r0 r1 r2 r3 r4 r5 r6 r7 : Int → Int}
theorem ov_TE_wt (K : tw_TB f r0 r1 r2 r3 r4 r5 r6 r7) (W : ov_WT f) {c way s : Int} (hc : 0 ≤ c ∧ c < 54) : ov_wtv (r1 c) (r2 c) (r3 c) (r4 c) way s = ov_wm f c way s := by
  have e1 := (K.2.1 c hc.1 hc.2).1
  unfold ov_wtv ov_wm
  by_cases k0 : f (10 + 4 * c) = 3
  · have q := K.2.2.1 c hc.1 hc.2 (by omega)
    rw [if_pos k0, if_pos (by omega), show 10 + 4 * c + 2 = 12 + 4 * c by omega, q.2.1]
  · rw [if_neg k0, if_neg (by omega)]
    by_cases k1 : f (10 + 4 * c) = 1 ∨ f (10 + 4 * c) = 2
    · have q := K.2.2.1 c hc.1 hc.2 (by omega)
      have w := ov_WT_at W (c := c) (by omega) (by omega)
      rw [if_pos k1, if_pos (by omega)]
      rw [show 10 + 4 * c + 1 = 11 + 4 * c by omega] at w
      rw [show 10 + 4 * c + 2 = 12 + 4 * c by omega, show 10 + 4 * c + 1 = 11 + 4 * c by omega, show 10 + 4 * c + 3 = 13 + 4 * c by omega, q.1, q.2.1, q.2.2]
      unfold ov_since ov_ph
      rw [if_pos (show 0 < f (11 + 4 * c) by omega)]
    · rw [if_neg k1, if_neg (by omega)]
theorem ov_TE_op (K : tw_TB f r0 r1 r2 r3 r4 r5 r6 r7) {x y way : Int} (hx : 0 ≤ x ∧ x ≤ 5) (hy : 0 ≤ y ∧ y ≤ 8) (hw : way = 0 ∨ way = 1) : tw_op (r0 0) (r0 1) (r1 (6 * y + x)) (r2 (6 * y + x)) (r4 (6 * y + x)) (r5 (6 * y + x)) (6 * y + x) way = ov_cgi f x y way := by
  have e0 := K.1.1
  have e1 := K.1.2.1
  obtain ⟨k1, k5⟩ := K.2.1 (6 * y + x) (by omega) (by omega)
  have kk := K.2.2.1 (6 * y + x) (by omega) (by omega)
  have a1 := ov_and1 (ov_shr (f (226 + 6 * y + x)) way)
  rw [show 226 + (6 * y + x) = 226 + 6 * y + x by omega] at k5
  rw [show 11 + 4 * (6 * y + x) = 10 + 4 * (6 * y + x) + 1 by omega, show 13 + 4 * (6 * y + x) = 10 + 4 * (6 * y + x) + 3 by omega] at kk
  rw [e0, e1, k5]
  unfold tw_op ov_cgi
  generalize ov_and (ov_shr (f (226 + 6 * y + x)) way) 1 = b at a1 ⊢
  generalize hc : 6 * y + x = c at k1 kk ⊢
  have hm : c % 6 = x := by omega
  have hd : c / 6 = y := by omega
  rw [hm, hd]
  by_cases t : f (10 + 4 * c) = 1 ∨ f (10 + 4 * c) = 2
  · have q := kk (by omega)
    obtain ⟨q2, -, q4⟩ := q
    clear kk
    rw [q2, q4]
    rcases hw with rfl | rfl <;> (repeat' split) <;> omega
  · clear kk
    rcases hw with rfl | rfl <;> (repeat' split) <;> omega
theorem ov_TE_on (K : tw_TB f r0 r1 r2 r3 r4 r5 r6 r7) {x y : Int} (hx : 0 ≤ x ∧ x ≤ 5) (hy : 0 ≤ y ∧ y ≤ 8) : r7 (6 * y + x) % 2 = ov_cgi f x y 0 ∧ r7 (6 * y + x) / 2 = ov_cgi f x y 1 := by
  have a := K.2.2.2.2.1 (6 * y + x) (by omega) (by omega)
  unfold tw_opx at a
  rw [ov_TE_op K hx hy (Or.inl rfl), ov_TE_op K hx hy (Or.inr rfl)] at a
  have s0 := (ov_cgi_sp f x y 0).1
  have s1 := (ov_cgi_sp f x y 1).1
  omega
theorem ov_TE_may (K : tw_TB f r0 r1 r2 r3 r4 r5 r6 r7) (x y way s : Int) : ov_mayc r0 r7 x y way s ↔ ov_mayf f x y way s := by
  have e0 := K.1.1
  have e1 := K.1.2.1
  have b := K.2.2.2.2.2
  unfold ov_mayc ov_mayf
  rw [e0, e1]
  constructor
  · rintro ⟨a1, a2, a3, a4, a5, a6, a7⟩
    have q := ov_TE_on K (x := x) (y := y) (by omega) (by omega)
    rcases a7 with ⟨rfl, a7⟩ | ⟨rfl, a7⟩
    · exact ⟨a1, a2, a3, a4, by omega, by omega, a5, a6, by omega⟩
    · exact ⟨a1, a2, a3, a4, by omega, by omega, a5, a6, by omega⟩
  · rintro ⟨a1, a2, a3, a4, a5, a6, a7, a8, a9⟩
    have q := ov_TE_on K (x := x) (y := y) (by omega) (by omega)
    have w : way = 0 ∨ way = 1 := by omega
    rcases w with rfl | rfl
    · exact ⟨a1, a2, a3, a4, a7, a8, Or.inl ⟨rfl, by omega⟩⟩
    · exact ⟨a1, a2, a3, a4, a7, a8, Or.inr ⟨rfl, by omega⟩⟩
theorem ov_TE_un (K : tw_TB f r0 r1 r2 r3 r4 r5 r6 r7) (W : ov_WT f) (x y way s : Int) : ov_unc r0 r1 r2 r3 r4 r7 x y way s = ov_unm f x y way s := by
  have m := ov_TE_may K x y way s
  have b := K.2.2.2.2.2
  unfold ov_unc ov_unm
  by_cases q : ov_mayf f x y way s
  · rw [ov_ite_t q, ov_ite_t (m.2 q)]
    obtain ⟨a1, a2, a3, a4, -⟩ := q
    exact ov_TE_wt K W (by omega)
  · rw [ov_ite_f q, ov_ite_f (fun w => q (m.1 w))]
theorem ov_TE_gi (K : tw_TB f r0 r1 r2 r3 r4 r5 r6 r7) (W : ov_WT f) {c way s : Int} (hc : 0 ≤ c ∧ c < 54) (hw : way = 0 ∨ way = 1) : ov_gci r1 r2 r3 r4 c way s = ov_gri f c way s := by
  have e1 := (K.2.1 c hc.1 hc.2).1
  unfold ov_gci
  rw [ov_TE_wt K W hc]
  unfold ov_gri ov_wm
  have pr : (f (10 + 4 * c) = 1 ∨ f (10 + 4 * c) = 2) → 0 ≤ ov_ph s (f (10 + 4 * c + 2)) (f (10 + 4 * c + 1)) ∧ ov_ph s (f (10 + 4 * c + 2)) (f (10 + 4 * c + 1)) < f (10 + 4 * c + 1) := fun t => ov_ph_rng (by
    have w := ov_WT_at W (c := c) (by omega) (by omega)
    omega)
  generalize ov_ph s (f (10 + 4 * c + 2)) (f (10 + 4 * c + 1)) = p at pr ⊢
  by_cases t : f (10 + 4 * c) = 1 ∨ f (10 + 4 * c) = 2
  · have pr2 := pr t
    clear pr
    rcases hw with rfl | rfl <;> (repeat' split) <;> omega
  · clear pr
    rcases hw with rfl | rfl <;> (repeat' split) <;> omega
theorem ov_TE_gr (K : tw_TB f r0 r1 r2 r3 r4 r5 r6 r7) (W : ov_WT f) (x y way s : Int) : ov_grc r0 r1 r2 r3 r4 r7 x y way s = ov_grm f x y way s := by
  have m := ov_TE_may K x y way s
  have b := K.2.2.2.2.2
  unfold ov_grc ov_grm
  by_cases q : ov_mayf f x y way s
  · rw [ov_ite_t q, ov_ite_t (m.2 q)]
    obtain ⟨a1, a2, a3, a4, a5, a6, -⟩ := q
    exact ov_TE_gi K W (by omega) (by omega)
  · rw [ov_ite_f q, ov_ite_f (fun w => q (m.1 w))]
end
theorem ov_grm_eq {h : ov_H} {r x y way s : Int} (K : ov_HT h (h 96)) (W : ov_WT (h 96)) (g : h 0 10 = 58 ∨ h 0 10 = 70) (xc : (h 0 10 = 58 → r = ov_grc (h 58) (h 59) (h 60) (h 61) (h 62) (h 65) x y way s) ∧ (h 0 10 = 70 → r = ov_grc (h 70) (h 71) (h 72) (h 73) (h 74) (h 77) x y way s)) : r = ov_grm (h 96) x y way s := by
  rcases g with e | e
  · rw [xc.1 e]
    exact ov_TE_gr (K.1 e) W x y way s
  · rw [xc.2 e]
    exact ov_TE_gr (K.2 e) W x y way s
theorem ov_unm_eq {h : ov_H} {r x y way s : Int} (K : ov_HT h (h 96)) (W : ov_WT (h 96)) (g : h 0 10 = 58 ∨ h 0 10 = 70) (xc : (h 0 10 = 58 → r = ov_unc (h 58) (h 59) (h 60) (h 61) (h 62) (h 65) x y way s) ∧ (h 0 10 = 70 → r = ov_unc (h 70) (h 71) (h 72) (h 73) (h 74) (h 77) x y way s)) : r = ov_unm (h 96) x y way s := by
  rcases g with e | e
  · rw [xc.1 e]
    exact ov_TE_un (K.1 e) W x y way s
  · rw [xc.2 e]
    exact ov_TE_un (K.2 e) W x y way s

abbrev P_OF_isSecond_t (F : ov_H) (z : ov_Z) (h : ov_H) (a : Int) : Option ov_V → ov_Z → ov_H → Prop := fun r0 z' h' => ∃ r : Int, r0 = some (ov_i r) ∧ z = z' ∧ h = h' ∧ ((r = 0 ∧ (a < 0 ∨ 1000000 < a) ∨ r = 1 ∧ 0 ≤ a ∧ a ≤ 1000000))
set_option maxHeartbeats 4000000 in
theorem c_OF_isSecond_t {u : ov_U} {F : ov_H} {z : ov_Z} {h : ov_H} (d : Nat) (hd : 0 ≤ d) (U : ov_cap u) (I : ov_I F z h) (a : Int) (g_a : ov_g a) : ov_T u d ov_m97 [ov_i a] z h (P_OF_isSecond_t F z h a) := by
  refine ov_en rfl (Nat.le_of_ble_eq_true rfl) ?_
  show ov_R u d ov_m97 0 [(0, ov_i a)] [] z h (P_OF_isSecond_t F z h a)
  refine ov_blk (ls2 := [(0, ov_i a)]) (st2 := [ov_i a]) (pc2 := 1) b_97_0_1 rfl rfl ?_
  refine ov_iflt (tgt := 15) d_97_1 (by decide) (by omega) (fun c1 => ?_) (fun c1 => ?_)
  · skip
    refine ov_blk (ls2 := [(0, ov_i a)]) (st2 := [ov_i 0]) (pc2 := 16) b_97_15_1 rfl rfl ?_
    exact ov_retz (st := []) d_97_16 rfl (by omega) ⟨_, rfl, rfl, rfl, (by show (0 = 0 ∧ (a < 0 ∨ 1000000 < a) ∨ 0 = 1 ∧ 0 ≤ a ∧ a ≤ 1000000); omega)⟩
  · skip
    refine ov_blk (ls2 := [(0, ov_i a)]) (st2 := [ov_i a]) (pc2 := 5) b_97_4_1 rfl rfl ?_
    refine ov_ldcw (n := 1000000) d_97_5 kc_OF_349 ?_
    refine ov_icgt (tgt := 15) d_97_8 (by decide) (by omega) (by omega) (fun c2 => ?_) (fun c2 => ?_)
    · skip
      refine ov_blk (ls2 := [(0, ov_i a)]) (st2 := [ov_i 0]) (pc2 := 16) b_97_15_1 rfl rfl ?_
      exact ov_retz (st := []) d_97_16 rfl (by omega) ⟨_, rfl, rfl, rfl, (by show (0 = 0 ∧ (a < 0 ∨ 1000000 < a) ∨ 0 = 1 ∧ 0 ≤ a ∧ a ≤ 1000000); omega)⟩
    · skip
      refine ov_blk (ls2 := [(0, ov_i a)]) (st2 := [ov_i 1]) (pc2 := 12) b_97_11_1 rfl rfl ?_
      refine ov_goto (tgt := 16) d_97_12 (by decide) ?_
      exact ov_retz (st := []) d_97_16 rfl (by omega) ⟨_, rfl, rfl, rfl, (by show (1 = 0 ∧ (a < 0 ∨ 1000000 < a) ∨ 1 = 1 ∧ 0 ≤ a ∧ a ≤ 1000000); omega)⟩
abbrev P_Town_corner_58_t (F : ov_H) (z : ov_Z) (h : ov_H) (x : Int) (y : Int) : Option ov_V → ov_Z → ov_H → Prop := fun r0 z' h' => ∃ r : Int, r0 = some (ov_i r) ∧ z = z' ∧ h = h' ∧ ((r = -1 ∧ (x < 0 ∨ (h 58 0) ≤ x ∨ y < 0 ∨ (h 58 1) ≤ y) ∨ 0 ≤ x ∧ x < (h 58 0) ∧ 0 ≤ y ∧ y < (h 58 1) ∧ r = 6 * y + x ∧ (h 58 0) ≤ 6 ∧ (h 58 1) ≤ 9))
set_option maxHeartbeats 4000000 in
theorem c_Town_corner_58_t {u : ov_U} {F : ov_H} {z : ov_Z} {h : ov_H} (d : Nat) (hd : 0 ≤ d) (U : ov_cap u) (I : ov_I F z h) (x : Int) (y : Int) (g_x : ov_g x) (g_y : ov_g y) : ov_T u d ov_m94 [ov_r 58, ov_i x, ov_i y] z h (P_Town_corner_58_t F z h x y) := by
  refine ov_en rfl (Nat.le_of_ble_eq_true rfl) ?_
  show ov_R u d ov_m94 0 [(0, ov_r 58), (1, ov_i x), (2, ov_i y)] [] z h (P_Town_corner_58_t F z h x y)
  refine ov_blk (ls2 := [(0, ov_r 58), (1, ov_i x), (2, ov_i y)]) (st2 := [ov_i x]) (pc2 := 1) b_94_0_1 rfl rfl ?_
  refine ov_iflt (tgt := 33) d_94_1 (by decide) (by omega) (fun c1 => ?_) (fun c1 => ?_)
  · skip
    refine ov_blk (ls2 := [(0, ov_r 58), (1, ov_i x), (2, ov_i y)]) (st2 := [ov_i (-1)]) (pc2 := 34) b_94_33_1 rfl rfl ?_
    exact ov_reti (st := []) d_94_34 rfl ⟨_, rfl, rfl, rfl, (by show ((-1) = -1 ∧ (x < 0 ∨ (h 58 0) ≤ x ∨ y < 0 ∨ (h 58 1) ≤ y) ∨ 0 ≤ x ∧ x < (h 58 0) ∧ 0 ≤ y ∧ y < (h 58 1) ∧ (-1) = 6 * y + x ∧ (h 58 0) ≤ 6 ∧ (h 58 1) ≤ 9); omega)⟩
  · skip
    refine ov_blk (ls2 := [(0, ov_r 58), (1, ov_i x), (2, ov_i y)]) (st2 := [ov_r 58, ov_i x]) (pc2 := 6) b_94_4_2 rfl rfl ?_
    refine ov_getf (v := ov_i (h 58 0)) d_94_6 fl_Town_46 (zb_58 I) (zs_58 I) rfl ?_
    have g2 := rg_58_0 I
    refine ov_icge (tgt := 33) d_94_9 (by decide) (by omega) (by omega) (fun c3 => ?_) (fun c3 => ?_)
    · skip
      refine ov_blk (ls2 := [(0, ov_r 58), (1, ov_i x), (2, ov_i y)]) (st2 := [ov_i (-1)]) (pc2 := 34) b_94_33_1 rfl rfl ?_
      exact ov_reti (st := []) d_94_34 rfl ⟨_, rfl, rfl, rfl, (by show ((-1) = -1 ∧ (x < 0 ∨ (h 58 0) ≤ x ∨ y < 0 ∨ (h 58 1) ≤ y) ∨ 0 ≤ x ∧ x < (h 58 0) ∧ 0 ≤ y ∧ y < (h 58 1) ∧ (-1) = 6 * y + x ∧ (h 58 0) ≤ 6 ∧ (h 58 1) ≤ 9); omega)⟩
    · skip
      refine ov_blk (ls2 := [(0, ov_r 58), (1, ov_i x), (2, ov_i y)]) (st2 := [ov_i y]) (pc2 := 13) b_94_12_1 rfl rfl ?_
      refine ov_iflt (tgt := 33) d_94_13 (by decide) (by omega) (fun c4 => ?_) (fun c4 => ?_)
      · skip
        refine ov_blk (ls2 := [(0, ov_r 58), (1, ov_i x), (2, ov_i y)]) (st2 := [ov_i (-1)]) (pc2 := 34) b_94_33_1 rfl rfl ?_
        exact ov_reti (st := []) d_94_34 rfl ⟨_, rfl, rfl, rfl, (by show ((-1) = -1 ∧ (x < 0 ∨ (h 58 0) ≤ x ∨ y < 0 ∨ (h 58 1) ≤ y) ∨ 0 ≤ x ∧ x < (h 58 0) ∧ 0 ≤ y ∧ y < (h 58 1) ∧ (-1) = 6 * y + x ∧ (h 58 0) ≤ 6 ∧ (h 58 1) ≤ 9); omega)⟩
      · skip
        refine ov_blk (ls2 := [(0, ov_r 58), (1, ov_i x), (2, ov_i y)]) (st2 := [ov_r 58, ov_i y]) (pc2 := 18) b_94_16_2 rfl rfl ?_
        refine ov_getf (v := ov_i (h 58 1)) d_94_18 fl_Town_50 (zb_58 I) (zs_58 I) rfl ?_
        have g5 := rg_58_1 I
        refine ov_icge (tgt := 33) d_94_21 (by decide) (by omega) (by omega) (fun c6 => ?_) (fun c6 => ?_)
        · skip
          refine ov_blk (ls2 := [(0, ov_r 58), (1, ov_i x), (2, ov_i y)]) (st2 := [ov_i (-1)]) (pc2 := 34) b_94_33_1 rfl rfl ?_
          exact ov_reti (st := []) d_94_34 rfl ⟨_, rfl, rfl, rfl, (by show ((-1) = -1 ∧ (x < 0 ∨ (h 58 0) ≤ x ∨ y < 0 ∨ (h 58 1) ≤ y) ∨ 0 ≤ x ∧ x < (h 58 0) ∧ 0 ≤ y ∧ y < (h 58 1) ∧ (-1) = 6 * y + x ∧ (h 58 0) ≤ 6 ∧ (h 58 1) ≤ 9); omega)⟩
        · skip
          refine ov_blk (ls2 := [(0, ov_r 58), (1, ov_i x), (2, ov_i y)]) (st2 := [ov_i ((y * 6) + x)]) (pc2 := 30) b_94_24_5 rfl rfl ?_
          refine ov_goto (tgt := 34) d_94_30 (by decide) ?_
          exact ov_reti (st := []) d_94_34 rfl ⟨_, rfl, rfl, rfl, (by show (((y * 6) + x) = -1 ∧ (x < 0 ∨ (h 58 0) ≤ x ∨ y < 0 ∨ (h 58 1) ≤ y) ∨ 0 ≤ x ∧ x < (h 58 0) ∧ 0 ≤ y ∧ y < (h 58 1) ∧ ((y * 6) + x) = 6 * y + x ∧ (h 58 0) ≤ 6 ∧ (h 58 1) ≤ 9); omega)⟩
abbrev P_Town_isOpen_58_t (F : ov_H) (z : ov_Z) (h : ov_H) (c : Int) (way : Int) : Option ov_V → ov_Z → ov_H → Prop := fun r0 z' h' => ∃ r : Int, r0 = some (ov_i r) ∧ z = z' ∧ h = h' ∧ ((r = 0 ∨ r = 1) ∧ (way = 0 → r = (h 65 c) % 2) ∧ (way = 1 → r = (h 65 c) / 2) ∧ (way < 0 ∨ 1 < way → r = 0))
set_option maxHeartbeats 4000000 in
theorem c_Town_isOpen_58_t {u : ov_U} {F : ov_H} {z : ov_Z} {h : ov_H} (d : Nat) (hd : 0 ≤ d) (U : ov_cap u) (I : ov_I F z h) (c : Int) (way : Int) (g_c : ov_g c) (g_way : ov_g way) (p0 : 0 ≤ c ∧ c ≤ 53) : ov_T u d ov_m98 [ov_r 58, ov_i c, ov_i way] z h (P_Town_isOpen_58_t F z h c way) := by
  refine ov_en rfl (Nat.le_of_ble_eq_true rfl) ?_
  show ov_R u d ov_m98 0 [(0, ov_r 58), (1, ov_i c), (2, ov_i way)] [] z h (P_Town_isOpen_58_t F z h c way)
  refine ov_blk (ls2 := [(0, ov_r 58), (1, ov_i c), (2, ov_i way)]) (st2 := [ov_i way]) (pc2 := 1) b_98_0_1 rfl rfl ?_
  refine ov_ifeq (tgt := 9) d_98_1 (by decide) (by omega) (fun c1 => ?_) (fun c1 => ?_)
  · skip
    refine ov_blk (ls2 := [(0, ov_r 58), (1, ov_i c), (2, ov_i way)]) (st2 := [ov_r 58]) (pc2 := 10) b_98_9_1 rfl rfl ?_
    refine ov_getf (v := ov_r 65) d_98_10 fl_Town_30 (zb_58 I) (zs_58 I) (congrArg ov_r (rg_58_12 I)) ?_
    refine ov_blk (ls2 := [(0, ov_r 58), (1, ov_i c), (2, ov_i way)]) (st2 := [ov_i c, ov_r 65]) (pc2 := 14) b_98_13_1 rfl rfl ?_
    refine ov_iald d_98_14 (zb_65 I) (zs_65 I) (by omega) ?_
    have g2 := ra_65 I c
    refine ov_blk (ls2 := [(0, ov_r 58), (1, ov_i c), (2, ov_i way)]) (st2 := [ov_i 1, ov_i (ov_shr (h 65 c) way)]) (pc2 := 18) b_98_15_3 rfl rfl ?_
    have g3 := ov_shrg (h 65 c) way
    have fo := ov_ob_sp (x := (h 65 c)) (way := way) (by omega)
    refine ov_blk (ls2 := [(0, ov_r 58), (1, ov_i c), (2, ov_i way)]) (st2 := [ov_i (ov_and (ov_shr (h 65 c) way) 1)]) (pc2 := 19) b_98_18_1 rfl rfl ?_
    have g4 := ov_andg (ov_shr (h 65 c) way) 1
    have g5 := ov_and1 (ov_shr (h 65 c) way)
    refine ov_ifeq (tgt := 26) d_98_19 (by decide) (by omega) (fun c6 => ?_) (fun c6 => ?_)
    · skip
      refine ov_blk (ls2 := [(0, ov_r 58), (1, ov_i c), (2, ov_i way)]) (st2 := [ov_i 0]) (pc2 := 27) b_98_26_1 rfl rfl ?_
      exact ov_retz (st := []) d_98_27 rfl (by omega) ⟨_, rfl, rfl, rfl, (by show (0 = 0 ∨ 0 = 1) ∧ (way = 0 → 0 = (h 65 c) % 2) ∧ (way = 1 → 0 = (h 65 c) / 2) ∧ (way < 0 ∨ 1 < way → 0 = 0); omega)⟩
    · skip
      refine ov_blk (ls2 := [(0, ov_r 58), (1, ov_i c), (2, ov_i way)]) (st2 := [ov_i 1]) (pc2 := 23) b_98_22_1 rfl rfl ?_
      refine ov_goto (tgt := 27) d_98_23 (by decide) ?_
      exact ov_retz (st := []) d_98_27 rfl (by omega) ⟨_, rfl, rfl, rfl, (by show (1 = 0 ∨ 1 = 1) ∧ (way = 0 → 1 = (h 65 c) % 2) ∧ (way = 1 → 1 = (h 65 c) / 2) ∧ (way < 0 ∨ 1 < way → 1 = 0); omega)⟩
  · skip
    refine ov_blk (ls2 := [(0, ov_r 58), (1, ov_i c), (2, ov_i way)]) (st2 := [ov_i 1, ov_i way]) (pc2 := 6) b_98_4_2 rfl rfl ?_
    refine ov_icne (tgt := 26) d_98_6 (by decide) (by omega) (by omega) (fun c7 => ?_) (fun c7 => ?_)
    · skip
      refine ov_blk (ls2 := [(0, ov_r 58), (1, ov_i c), (2, ov_i way)]) (st2 := [ov_i 0]) (pc2 := 27) b_98_26_1 rfl rfl ?_
      exact ov_retz (st := []) d_98_27 rfl (by omega) ⟨_, rfl, rfl, rfl, (by show (0 = 0 ∨ 0 = 1) ∧ (way = 0 → 0 = (h 65 c) % 2) ∧ (way = 1 → 0 = (h 65 c) / 2) ∧ (way < 0 ∨ 1 < way → 0 = 0); omega)⟩
    · skip
      refine ov_blk (ls2 := [(0, ov_r 58), (1, ov_i c), (2, ov_i way)]) (st2 := [ov_r 58]) (pc2 := 10) b_98_9_1 rfl rfl ?_
      refine ov_getf (v := ov_r 65) d_98_10 fl_Town_30 (zb_58 I) (zs_58 I) (congrArg ov_r (rg_58_12 I)) ?_
      refine ov_blk (ls2 := [(0, ov_r 58), (1, ov_i c), (2, ov_i way)]) (st2 := [ov_i c, ov_r 65]) (pc2 := 14) b_98_13_1 rfl rfl ?_
      refine ov_iald d_98_14 (zb_65 I) (zs_65 I) (by omega) ?_
      have g8 := ra_65 I c
      refine ov_blk (ls2 := [(0, ov_r 58), (1, ov_i c), (2, ov_i way)]) (st2 := [ov_i 1, ov_i (ov_shr (h 65 c) way)]) (pc2 := 18) b_98_15_3 rfl rfl ?_
      have g9 := ov_shrg (h 65 c) way
      have fo := ov_ob_sp (x := (h 65 c)) (way := way) (by omega)
      refine ov_blk (ls2 := [(0, ov_r 58), (1, ov_i c), (2, ov_i way)]) (st2 := [ov_i (ov_and (ov_shr (h 65 c) way) 1)]) (pc2 := 19) b_98_18_1 rfl rfl ?_
      have g10 := ov_andg (ov_shr (h 65 c) way) 1
      have g11 := ov_and1 (ov_shr (h 65 c) way)
      refine ov_ifeq (tgt := 26) d_98_19 (by decide) (by omega) (fun c12 => ?_) (fun c12 => ?_)
      · skip
        refine ov_blk (ls2 := [(0, ov_r 58), (1, ov_i c), (2, ov_i way)]) (st2 := [ov_i 0]) (pc2 := 27) b_98_26_1 rfl rfl ?_
        exact ov_retz (st := []) d_98_27 rfl (by omega) ⟨_, rfl, rfl, rfl, (by show (0 = 0 ∨ 0 = 1) ∧ (way = 0 → 0 = (h 65 c) % 2) ∧ (way = 1 → 0 = (h 65 c) / 2) ∧ (way < 0 ∨ 1 < way → 0 = 0); omega)⟩
      · skip
        refine ov_blk (ls2 := [(0, ov_r 58), (1, ov_i c), (2, ov_i way)]) (st2 := [ov_i 1]) (pc2 := 23) b_98_22_1 rfl rfl ?_
        refine ov_goto (tgt := 27) d_98_23 (by decide) ?_
        exact ov_retz (st := []) d_98_27 rfl (by omega) ⟨_, rfl, rfl, rfl, (by show (1 = 0 ∨ 1 = 1) ∧ (way = 0 → 1 = (h 65 c) % 2) ∧ (way = 1 → 1 = (h 65 c) / 2) ∧ (way < 0 ∨ 1 < way → 1 = 0); omega)⟩
abbrev P_Town_corner_70_t (F : ov_H) (z : ov_Z) (h : ov_H) (x : Int) (y : Int) : Option ov_V → ov_Z → ov_H → Prop := fun r0 z' h' => ∃ r : Int, r0 = some (ov_i r) ∧ z = z' ∧ h = h' ∧ ((r = -1 ∧ (x < 0 ∨ (h 70 0) ≤ x ∨ y < 0 ∨ (h 70 1) ≤ y) ∨ 0 ≤ x ∧ x < (h 70 0) ∧ 0 ≤ y ∧ y < (h 70 1) ∧ r = 6 * y + x ∧ (h 70 0) ≤ 6 ∧ (h 70 1) ≤ 9))
set_option maxHeartbeats 4000000 in
theorem c_Town_corner_70_t {u : ov_U} {F : ov_H} {z : ov_Z} {h : ov_H} (d : Nat) (hd : 0 ≤ d) (U : ov_cap u) (I : ov_I F z h) (x : Int) (y : Int) (g_x : ov_g x) (g_y : ov_g y) : ov_T u d ov_m94 [ov_r 70, ov_i x, ov_i y] z h (P_Town_corner_70_t F z h x y) := by
  refine ov_en rfl (Nat.le_of_ble_eq_true rfl) ?_
  show ov_R u d ov_m94 0 [(0, ov_r 70), (1, ov_i x), (2, ov_i y)] [] z h (P_Town_corner_70_t F z h x y)
  refine ov_blk (ls2 := [(0, ov_r 70), (1, ov_i x), (2, ov_i y)]) (st2 := [ov_i x]) (pc2 := 1) b_94_0_1 rfl rfl ?_
  refine ov_iflt (tgt := 33) d_94_1 (by decide) (by omega) (fun c1 => ?_) (fun c1 => ?_)
  · skip
    refine ov_blk (ls2 := [(0, ov_r 70), (1, ov_i x), (2, ov_i y)]) (st2 := [ov_i (-1)]) (pc2 := 34) b_94_33_1 rfl rfl ?_
    exact ov_reti (st := []) d_94_34 rfl ⟨_, rfl, rfl, rfl, (by show ((-1) = -1 ∧ (x < 0 ∨ (h 70 0) ≤ x ∨ y < 0 ∨ (h 70 1) ≤ y) ∨ 0 ≤ x ∧ x < (h 70 0) ∧ 0 ≤ y ∧ y < (h 70 1) ∧ (-1) = 6 * y + x ∧ (h 70 0) ≤ 6 ∧ (h 70 1) ≤ 9); omega)⟩
  · skip
    refine ov_blk (ls2 := [(0, ov_r 70), (1, ov_i x), (2, ov_i y)]) (st2 := [ov_r 70, ov_i x]) (pc2 := 6) b_94_4_2 rfl rfl ?_
    refine ov_getf (v := ov_i (h 70 0)) d_94_6 fl_Town_46 (zb_70 I) (zs_70 I) rfl ?_
    have g2 := rg_70_0 I
    refine ov_icge (tgt := 33) d_94_9 (by decide) (by omega) (by omega) (fun c3 => ?_) (fun c3 => ?_)
    · skip
      refine ov_blk (ls2 := [(0, ov_r 70), (1, ov_i x), (2, ov_i y)]) (st2 := [ov_i (-1)]) (pc2 := 34) b_94_33_1 rfl rfl ?_
      exact ov_reti (st := []) d_94_34 rfl ⟨_, rfl, rfl, rfl, (by show ((-1) = -1 ∧ (x < 0 ∨ (h 70 0) ≤ x ∨ y < 0 ∨ (h 70 1) ≤ y) ∨ 0 ≤ x ∧ x < (h 70 0) ∧ 0 ≤ y ∧ y < (h 70 1) ∧ (-1) = 6 * y + x ∧ (h 70 0) ≤ 6 ∧ (h 70 1) ≤ 9); omega)⟩
    · skip
      refine ov_blk (ls2 := [(0, ov_r 70), (1, ov_i x), (2, ov_i y)]) (st2 := [ov_i y]) (pc2 := 13) b_94_12_1 rfl rfl ?_
      refine ov_iflt (tgt := 33) d_94_13 (by decide) (by omega) (fun c4 => ?_) (fun c4 => ?_)
      · skip
        refine ov_blk (ls2 := [(0, ov_r 70), (1, ov_i x), (2, ov_i y)]) (st2 := [ov_i (-1)]) (pc2 := 34) b_94_33_1 rfl rfl ?_
        exact ov_reti (st := []) d_94_34 rfl ⟨_, rfl, rfl, rfl, (by show ((-1) = -1 ∧ (x < 0 ∨ (h 70 0) ≤ x ∨ y < 0 ∨ (h 70 1) ≤ y) ∨ 0 ≤ x ∧ x < (h 70 0) ∧ 0 ≤ y ∧ y < (h 70 1) ∧ (-1) = 6 * y + x ∧ (h 70 0) ≤ 6 ∧ (h 70 1) ≤ 9); omega)⟩
      · skip
        refine ov_blk (ls2 := [(0, ov_r 70), (1, ov_i x), (2, ov_i y)]) (st2 := [ov_r 70, ov_i y]) (pc2 := 18) b_94_16_2 rfl rfl ?_
        refine ov_getf (v := ov_i (h 70 1)) d_94_18 fl_Town_50 (zb_70 I) (zs_70 I) rfl ?_
        have g5 := rg_70_1 I
        refine ov_icge (tgt := 33) d_94_21 (by decide) (by omega) (by omega) (fun c6 => ?_) (fun c6 => ?_)
        · skip
          refine ov_blk (ls2 := [(0, ov_r 70), (1, ov_i x), (2, ov_i y)]) (st2 := [ov_i (-1)]) (pc2 := 34) b_94_33_1 rfl rfl ?_
          exact ov_reti (st := []) d_94_34 rfl ⟨_, rfl, rfl, rfl, (by show ((-1) = -1 ∧ (x < 0 ∨ (h 70 0) ≤ x ∨ y < 0 ∨ (h 70 1) ≤ y) ∨ 0 ≤ x ∧ x < (h 70 0) ∧ 0 ≤ y ∧ y < (h 70 1) ∧ (-1) = 6 * y + x ∧ (h 70 0) ≤ 6 ∧ (h 70 1) ≤ 9); omega)⟩
        · skip
          refine ov_blk (ls2 := [(0, ov_r 70), (1, ov_i x), (2, ov_i y)]) (st2 := [ov_i ((y * 6) + x)]) (pc2 := 30) b_94_24_5 rfl rfl ?_
          refine ov_goto (tgt := 34) d_94_30 (by decide) ?_
          exact ov_reti (st := []) d_94_34 rfl ⟨_, rfl, rfl, rfl, (by show (((y * 6) + x) = -1 ∧ (x < 0 ∨ (h 70 0) ≤ x ∨ y < 0 ∨ (h 70 1) ≤ y) ∨ 0 ≤ x ∧ x < (h 70 0) ∧ 0 ≤ y ∧ y < (h 70 1) ∧ ((y * 6) + x) = 6 * y + x ∧ (h 70 0) ≤ 6 ∧ (h 70 1) ≤ 9); omega)⟩
abbrev P_Town_isOpen_70_t (F : ov_H) (z : ov_Z) (h : ov_H) (c : Int) (way : Int) : Option ov_V → ov_Z → ov_H → Prop := fun r0 z' h' => ∃ r : Int, r0 = some (ov_i r) ∧ z = z' ∧ h = h' ∧ ((r = 0 ∨ r = 1) ∧ (way = 0 → r = (h 77 c) % 2) ∧ (way = 1 → r = (h 77 c) / 2) ∧ (way < 0 ∨ 1 < way → r = 0))
set_option maxHeartbeats 4000000 in
theorem c_Town_isOpen_70_t {u : ov_U} {F : ov_H} {z : ov_Z} {h : ov_H} (d : Nat) (hd : 0 ≤ d) (U : ov_cap u) (I : ov_I F z h) (c : Int) (way : Int) (g_c : ov_g c) (g_way : ov_g way) (p0 : 0 ≤ c ∧ c ≤ 53) : ov_T u d ov_m98 [ov_r 70, ov_i c, ov_i way] z h (P_Town_isOpen_70_t F z h c way) := by
  refine ov_en rfl (Nat.le_of_ble_eq_true rfl) ?_
  show ov_R u d ov_m98 0 [(0, ov_r 70), (1, ov_i c), (2, ov_i way)] [] z h (P_Town_isOpen_70_t F z h c way)
  refine ov_blk (ls2 := [(0, ov_r 70), (1, ov_i c), (2, ov_i way)]) (st2 := [ov_i way]) (pc2 := 1) b_98_0_1 rfl rfl ?_
  refine ov_ifeq (tgt := 9) d_98_1 (by decide) (by omega) (fun c1 => ?_) (fun c1 => ?_)
  · skip
    refine ov_blk (ls2 := [(0, ov_r 70), (1, ov_i c), (2, ov_i way)]) (st2 := [ov_r 70]) (pc2 := 10) b_98_9_1 rfl rfl ?_
    refine ov_getf (v := ov_r 77) d_98_10 fl_Town_30 (zb_70 I) (zs_70 I) (congrArg ov_r (rg_70_12 I)) ?_
    refine ov_blk (ls2 := [(0, ov_r 70), (1, ov_i c), (2, ov_i way)]) (st2 := [ov_i c, ov_r 77]) (pc2 := 14) b_98_13_1 rfl rfl ?_
    refine ov_iald d_98_14 (zb_77 I) (zs_77 I) (by omega) ?_
    have g2 := ra_77 I c
    refine ov_blk (ls2 := [(0, ov_r 70), (1, ov_i c), (2, ov_i way)]) (st2 := [ov_i 1, ov_i (ov_shr (h 77 c) way)]) (pc2 := 18) b_98_15_3 rfl rfl ?_
    have g3 := ov_shrg (h 77 c) way
    have fo := ov_ob_sp (x := (h 77 c)) (way := way) (by omega)
    refine ov_blk (ls2 := [(0, ov_r 70), (1, ov_i c), (2, ov_i way)]) (st2 := [ov_i (ov_and (ov_shr (h 77 c) way) 1)]) (pc2 := 19) b_98_18_1 rfl rfl ?_
    have g4 := ov_andg (ov_shr (h 77 c) way) 1
    have g5 := ov_and1 (ov_shr (h 77 c) way)
    refine ov_ifeq (tgt := 26) d_98_19 (by decide) (by omega) (fun c6 => ?_) (fun c6 => ?_)
    · skip
      refine ov_blk (ls2 := [(0, ov_r 70), (1, ov_i c), (2, ov_i way)]) (st2 := [ov_i 0]) (pc2 := 27) b_98_26_1 rfl rfl ?_
      exact ov_retz (st := []) d_98_27 rfl (by omega) ⟨_, rfl, rfl, rfl, (by show (0 = 0 ∨ 0 = 1) ∧ (way = 0 → 0 = (h 77 c) % 2) ∧ (way = 1 → 0 = (h 77 c) / 2) ∧ (way < 0 ∨ 1 < way → 0 = 0); omega)⟩
    · skip
      refine ov_blk (ls2 := [(0, ov_r 70), (1, ov_i c), (2, ov_i way)]) (st2 := [ov_i 1]) (pc2 := 23) b_98_22_1 rfl rfl ?_
      refine ov_goto (tgt := 27) d_98_23 (by decide) ?_
      exact ov_retz (st := []) d_98_27 rfl (by omega) ⟨_, rfl, rfl, rfl, (by show (1 = 0 ∨ 1 = 1) ∧ (way = 0 → 1 = (h 77 c) % 2) ∧ (way = 1 → 1 = (h 77 c) / 2) ∧ (way < 0 ∨ 1 < way → 1 = 0); omega)⟩
  · skip
    refine ov_blk (ls2 := [(0, ov_r 70), (1, ov_i c), (2, ov_i way)]) (st2 := [ov_i 1, ov_i way]) (pc2 := 6) b_98_4_2 rfl rfl ?_
    refine ov_icne (tgt := 26) d_98_6 (by decide) (by omega) (by omega) (fun c7 => ?_) (fun c7 => ?_)
    · skip
      refine ov_blk (ls2 := [(0, ov_r 70), (1, ov_i c), (2, ov_i way)]) (st2 := [ov_i 0]) (pc2 := 27) b_98_26_1 rfl rfl ?_
      exact ov_retz (st := []) d_98_27 rfl (by omega) ⟨_, rfl, rfl, rfl, (by show (0 = 0 ∨ 0 = 1) ∧ (way = 0 → 0 = (h 77 c) % 2) ∧ (way = 1 → 0 = (h 77 c) / 2) ∧ (way < 0 ∨ 1 < way → 0 = 0); omega)⟩
    · skip
      refine ov_blk (ls2 := [(0, ov_r 70), (1, ov_i c), (2, ov_i way)]) (st2 := [ov_r 70]) (pc2 := 10) b_98_9_1 rfl rfl ?_
      refine ov_getf (v := ov_r 77) d_98_10 fl_Town_30 (zb_70 I) (zs_70 I) (congrArg ov_r (rg_70_12 I)) ?_
      refine ov_blk (ls2 := [(0, ov_r 70), (1, ov_i c), (2, ov_i way)]) (st2 := [ov_i c, ov_r 77]) (pc2 := 14) b_98_13_1 rfl rfl ?_
      refine ov_iald d_98_14 (zb_77 I) (zs_77 I) (by omega) ?_
      have g8 := ra_77 I c
      refine ov_blk (ls2 := [(0, ov_r 70), (1, ov_i c), (2, ov_i way)]) (st2 := [ov_i 1, ov_i (ov_shr (h 77 c) way)]) (pc2 := 18) b_98_15_3 rfl rfl ?_
      have g9 := ov_shrg (h 77 c) way
      have fo := ov_ob_sp (x := (h 77 c)) (way := way) (by omega)
      refine ov_blk (ls2 := [(0, ov_r 70), (1, ov_i c), (2, ov_i way)]) (st2 := [ov_i (ov_and (ov_shr (h 77 c) way) 1)]) (pc2 := 19) b_98_18_1 rfl rfl ?_
      have g10 := ov_andg (ov_shr (h 77 c) way) 1
      have g11 := ov_and1 (ov_shr (h 77 c) way)
      refine ov_ifeq (tgt := 26) d_98_19 (by decide) (by omega) (fun c12 => ?_) (fun c12 => ?_)
      · skip
        refine ov_blk (ls2 := [(0, ov_r 70), (1, ov_i c), (2, ov_i way)]) (st2 := [ov_i 0]) (pc2 := 27) b_98_26_1 rfl rfl ?_
        exact ov_retz (st := []) d_98_27 rfl (by omega) ⟨_, rfl, rfl, rfl, (by show (0 = 0 ∨ 0 = 1) ∧ (way = 0 → 0 = (h 77 c) % 2) ∧ (way = 1 → 0 = (h 77 c) / 2) ∧ (way < 0 ∨ 1 < way → 0 = 0); omega)⟩
      · skip
        refine ov_blk (ls2 := [(0, ov_r 70), (1, ov_i c), (2, ov_i way)]) (st2 := [ov_i 1]) (pc2 := 23) b_98_22_1 rfl rfl ?_
        refine ov_goto (tgt := 27) d_98_23 (by decide) ?_
        exact ov_retz (st := []) d_98_27 rfl (by omega) ⟨_, rfl, rfl, rfl, (by show (1 = 0 ∨ 1 = 1) ∧ (way = 0 → 1 = (h 77 c) % 2) ∧ (way = 1 → 1 = (h 77 c) / 2) ∧ (way < 0 ∨ 1 < way → 1 = 0); omega)⟩
abbrev P_OF_green_0_t (F : ov_H) (z : ov_Z) (h : ov_H) (x : Int) (y : Int) (way : Int) (s : Int) : Option ov_V → ov_Z → ov_H → Prop := fun r0 z' h' => ∃ r : Int, r0 = some (ov_i r) ∧ z = z' ∧ h = h' ∧ (True) ∧ (h 0 10 = 58 → r = ov_grc (h 58) (h 59) (h 60) (h 61) (h 62) (h 65) x y way s) ∧ (h 0 10 = 70 → r = ov_grc (h 70) (h 71) (h 72) (h 73) (h 74) (h 77) x y way s)
set_option maxHeartbeats 4000000 in
theorem c_OF_green_0_t {u : ov_U} {F : ov_H} {z : ov_Z} {h : ov_H} (d : Nat) (hd : 5 ≤ d) (U : ov_cap u) (I : ov_I F z h) (x : Int) (y : Int) (way : Int) (s : Int) (g_x : ov_g x) (g_y : ov_g y) (g_way : ov_g way) (g_s : ov_g s) : ov_T u d ov_m96 [ov_r 0, ov_i x, ov_i y, ov_i way, ov_i s] z h (P_OF_green_0_t F z h x y way s) := by
  refine ov_en rfl (Nat.le_of_ble_eq_true rfl) ?_
  show ov_R u d ov_m96 0 [(0, ov_r 0), (1, ov_i x), (2, ov_i y), (3, ov_i way), (4, ov_i s)] [] z h (P_OF_green_0_t F z h x y way s)
  refine ov_blk (ls2 := [(0, ov_r 0), (1, ov_i x), (2, ov_i y), (3, ov_i way), (4, ov_i s)]) (st2 := [ov_r 0]) (pc2 := 1) b_96_0_1 rfl rfl ?_
  rcases rg_0_10 I with e1 | e1
  · skip
    refine ov_getf (v := ov_r 58) d_96_1 fl_OF_78 (zb_0 I) (zs_0 I) (congrArg ov_r e1) ?_
    refine ov_blk (ls2 := [(0, ov_r 0), (1, ov_i x), (2, ov_i y), (3, ov_i way), (4, ov_i s)]) (st2 := [ov_i y, ov_i x, ov_r 58]) (pc2 := 6) b_96_4_2 rfl rfl ?_
    refine ov_cV (as := [ov_i x, ov_i y]) (st := []) (d2 := d - 1) d_96_6 lk_OF_131 rfl (Nat.le_of_ble_eq_true rfl) (c := 9) (zb_58 I) (zs_58 I) ⟨by decide, rfl⟩ (by omega) (c_Town_corner_58_t (d - 1) (by omega) U I x y (by omega) (by omega)) ?_
    rintro _ _ _ ⟨v3, rfl, rfl, rfl, f2⟩
    show ov_R u d ov_m96 9 [(0, ov_r 0), (1, ov_i x), (2, ov_i y), (3, ov_i way), (4, ov_i s)] [ov_i v3] z h (P_OF_green_0_t F z h x y way s)
    have f4 : (v3 = -1 ∧ (x < 0 ∨ (h 58 0) ≤ x ∨ y < 0 ∨ (h 58 1) ≤ y) ∨ 0 ≤ x ∧ x < (h 58 0) ∧ 0 ≤ y ∧ y < (h 58 1) ∧ v3 = 6 * y + x ∧ (h 58 0) ≤ 6 ∧ (h 58 1) ≤ 9) := f2
    clear f2
    refine ov_blk (ls2 := [(0, ov_r 0), (1, ov_i x), (2, ov_i y), (3, ov_i way), (4, ov_i s), (5, ov_i v3)]) (st2 := [ov_i (-1), ov_i v3]) (pc2 := 14) b_96_9_3 rfl rfl ?_
    refine ov_iceq (tgt := 38) d_96_14 (by decide) (by omega) (by omega) (fun c5 => ?_) (fun c5 => ?_)
    · skip
      refine ov_blk (ls2 := [(0, ov_r 0), (1, ov_i x), (2, ov_i y), (3, ov_i way), (4, ov_i s), (5, ov_i v3)]) (st2 := [ov_i (-1)]) (pc2 := 39) b_96_38_1 rfl rfl ?_
      exact ov_reti (st := []) d_96_39 rfl ⟨_, rfl, rfl, rfl, trivial, ⟨fun _ => (by unfold ov_grc; rw [ov_ite_f (fun q : ov_mayc (h 58) (h 65) x y way s => by unfold ov_mayc at q; (first | omega | (rw [show 6 * y + x = v3 by omega] at q; omega)))]), (fun e => absurd e (by omega))⟩⟩
    · skip
      refine ov_blk (ls2 := [(0, ov_r 0), (1, ov_i x), (2, ov_i y), (3, ov_i way), (4, ov_i s), (5, ov_i v3)]) (st2 := [ov_i s]) (pc2 := 19) b_96_17_1 rfl rfl ?_
      refine ov_cS (as := [ov_i s]) (st := []) (d2 := d - 1) d_96_19 lk_OF_155 rfl (Nat.le_of_ble_eq_true rfl) (by omega) (c_OF_isSecond_t (d - 1) (by omega) U I s (by omega)) ?_
      rintro _ _ _ ⟨v7, rfl, rfl, rfl, f6⟩
      show ov_R u d ov_m96 22 [(0, ov_r 0), (1, ov_i x), (2, ov_i y), (3, ov_i way), (4, ov_i s), (5, ov_i v3)] [ov_i v7] z h (P_OF_green_0_t F z h x y way s)
      have f8 : (v7 = 0 ∧ (s < 0 ∨ 1000000 < s) ∨ v7 = 1 ∧ 0 ≤ s ∧ s ≤ 1000000) := f6
      clear f6
      refine ov_ifeq (tgt := 38) d_96_22 (by decide) (by omega) (fun c9 => ?_) (fun c9 => ?_)
      · skip
        refine ov_blk (ls2 := [(0, ov_r 0), (1, ov_i x), (2, ov_i y), (3, ov_i way), (4, ov_i s), (5, ov_i v3)]) (st2 := [ov_i (-1)]) (pc2 := 39) b_96_38_1 rfl rfl ?_
        exact ov_reti (st := []) d_96_39 rfl ⟨_, rfl, rfl, rfl, trivial, ⟨fun _ => (by unfold ov_grc; rw [ov_ite_f (fun q : ov_mayc (h 58) (h 65) x y way s => by unfold ov_mayc at q; (first | omega | (rw [show 6 * y + x = v3 by omega] at q; omega)))]), (fun e => absurd e (by omega))⟩⟩
      · skip
        refine ov_blk (ls2 := [(0, ov_r 0), (1, ov_i x), (2, ov_i y), (3, ov_i way), (4, ov_i s), (5, ov_i v3)]) (st2 := [ov_r 0]) (pc2 := 26) b_96_25_1 rfl rfl ?_
        refine ov_getf (v := ov_r 58) d_96_26 fl_OF_78 (zb_0 I) (zs_0 I) (congrArg ov_r e1) ?_
        refine ov_blk (ls2 := [(0, ov_r 0), (1, ov_i x), (2, ov_i y), (3, ov_i way), (4, ov_i s), (5, ov_i v3)]) (st2 := [ov_i way, ov_i v3, ov_r 58]) (pc2 := 32) b_96_29_2 rfl rfl ?_
        refine ov_cV (as := [ov_i v3, ov_i way]) (st := []) (d2 := d - 1) d_96_32 lk_OF_158 rfl (Nat.le_of_ble_eq_true rfl) (c := 9) (zb_58 I) (zs_58 I) ⟨by decide, rfl⟩ (by omega) (c_Town_isOpen_58_t (d - 1) (by omega) U I v3 way (by omega) (by omega) (by omega)) ?_
        rintro _ _ _ ⟨v11, rfl, rfl, rfl, f10⟩
        show ov_R u d ov_m96 35 [(0, ov_r 0), (1, ov_i x), (2, ov_i y), (3, ov_i way), (4, ov_i s), (5, ov_i v3)] [ov_i v11] z h (P_OF_green_0_t F z h x y way s)
        have f12 : (v11 = 0 ∨ v11 = 1) ∧ (way = 0 → v11 = (h 65 v3) % 2) ∧ (way = 1 → v11 = (h 65 v3) / 2) ∧ (way < 0 ∨ 1 < way → v11 = 0) := f10
        clear f10
        refine ov_ifne (tgt := 40) d_96_35 (by decide) (by omega) (fun c13 => ?_) (fun c13 => ?_)
        · skip
          refine ov_blk (ls2 := [(0, ov_r 0), (1, ov_i x), (2, ov_i y), (3, ov_i way), (4, ov_i s), (5, ov_i v3)]) (st2 := [ov_r 0]) (pc2 := 41) b_96_40_1 rfl rfl ?_
          refine ov_getf (v := ov_r 58) d_96_41 fl_OF_78 (zb_0 I) (zs_0 I) (congrArg ov_r e1) ?_
          refine ov_getf (v := ov_r 59) d_96_44 fl_OF_139 (zb_58 I) (zs_58 I) (congrArg ov_r (rg_58_2 I)) ?_
          refine ov_blk (ls2 := [(0, ov_r 0), (1, ov_i x), (2, ov_i y), (3, ov_i way), (4, ov_i s), (5, ov_i v3)]) (st2 := [ov_i v3, ov_r 59]) (pc2 := 49) b_96_47_1 rfl rfl ?_
          refine ov_iald d_96_49 (zb_59 I) (zs_59 I) (by omega) ?_
          have g14 := ra_59 I v3
          refine ov_blk (ls2 := [(0, ov_r 0), (1, ov_i x), (2, ov_i y), (3, ov_i way), (4, ov_i s), (5, ov_i v3)]) (st2 := [ov_i 2, ov_i (h 59 v3)]) (pc2 := 51) b_96_50_1 rfl rfl ?_
          refine ov_icne (tgt := 65) d_96_51 (by decide) (by omega) (by omega) (fun c15 => ?_) (fun c15 => ?_)
          · skip
            refine ov_blk (ls2 := [(0, ov_r 0), (1, ov_i x), (2, ov_i y), (3, ov_i way), (4, ov_i s), (5, ov_i v3)]) (st2 := [ov_r 0]) (pc2 := 66) b_96_65_1 rfl rfl ?_
            refine ov_getf (v := ov_r 58) d_96_66 fl_OF_78 (zb_0 I) (zs_0 I) (congrArg ov_r e1) ?_
            refine ov_blk (ls2 := [(0, ov_r 0), (1, ov_i x), (2, ov_i y), (3, ov_i way), (4, ov_i s), (5, ov_i v3)]) (st2 := [ov_i s, ov_i way, ov_i v3, ov_r 58]) (pc2 := 74) b_96_69_3 rfl rfl ?_
            refine ov_cV (as := [ov_i v3, ov_i way, ov_i s]) (st := []) (d2 := d - 1) d_96_74 lk_OF_162 rfl (Nat.le_of_ble_eq_true rfl) (c := 9) (zb_58 I) (zs_58 I) ⟨by decide, rfl⟩ (by omega) (c_Town_waitFor_58_b (d - 1) (by omega) U I v3 way s (by omega) (by omega) (by omega) (by omega) (by omega)) ?_
            rintro _ _ _ ⟨v17, rfl, rfl, rfl, f16⟩
            show ov_R u d ov_m96 77 [(0, ov_r 0), (1, ov_i x), (2, ov_i y), (3, ov_i way), (4, ov_i s), (5, ov_i v3)] [ov_i v17] z h (P_OF_green_0_t F z h x y way s)
            have f18 : v17 = ov_wtv (h 59 v3) (h 60 v3) (h 61 v3) (h 62 v3) way s ∧ 0 ≤ v17 ∧ v17 ≤ 60 := f16
            clear f16
            refine ov_ifne (tgt := 84) d_96_77 (by decide) (by omega) (fun c19 => ?_) (fun c19 => ?_)
            · skip
              refine ov_blk (ls2 := [(0, ov_r 0), (1, ov_i x), (2, ov_i y), (3, ov_i way), (4, ov_i s), (5, ov_i v3)]) (st2 := [ov_i 0]) (pc2 := 85) b_96_84_1 rfl rfl ?_
              exact ov_reti (st := []) d_96_85 rfl ⟨_, rfl, rfl, rfl, trivial, ⟨fun _ => (by unfold ov_grc; rw [ov_ite_t (show ov_mayc (h 58) (h 65) x y way s by unfold ov_mayc; rw [show 6 * y + x = v3 by omega]; omega), show 6 * y + x = v3 by omega]; (try unfold ov_gci); (repeat' split) <;> omega), (fun e => absurd e (by omega))⟩⟩
            · skip
              refine ov_blk (ls2 := [(0, ov_r 0), (1, ov_i x), (2, ov_i y), (3, ov_i way), (4, ov_i s), (5, ov_i v3)]) (st2 := [ov_i 1]) (pc2 := 81) b_96_80_1 rfl rfl ?_
              refine ov_goto (tgt := 85) d_96_81 (by decide) ?_
              exact ov_reti (st := []) d_96_85 rfl ⟨_, rfl, rfl, rfl, trivial, ⟨fun _ => (by unfold ov_grc; rw [ov_ite_t (show ov_mayc (h 58) (h 65) x y way s by unfold ov_mayc; rw [show 6 * y + x = v3 by omega]; omega), show 6 * y + x = v3 by omega]; (try unfold ov_gci); (repeat' split) <;> omega), (fun e => absurd e (by omega))⟩⟩
          · skip
            refine ov_blk (ls2 := [(0, ov_r 0), (1, ov_i x), (2, ov_i y), (3, ov_i way), (4, ov_i s), (5, ov_i v3)]) (st2 := [ov_i 1, ov_i way]) (pc2 := 56) b_96_54_2 rfl rfl ?_
            refine ov_icne (tgt := 63) d_96_56 (by decide) (by omega) (by omega) (fun c20 => ?_) (fun c20 => ?_)
            · skip
              refine ov_blk (ls2 := [(0, ov_r 0), (1, ov_i x), (2, ov_i y), (3, ov_i way), (4, ov_i s), (5, ov_i v3)]) (st2 := [ov_i 0]) (pc2 := 64) b_96_63_1 rfl rfl ?_
              exact ov_reti (st := []) d_96_64 rfl ⟨_, rfl, rfl, rfl, trivial, ⟨fun _ => (by unfold ov_grc; rw [ov_ite_t (show ov_mayc (h 58) (h 65) x y way s by unfold ov_mayc; rw [show 6 * y + x = v3 by omega]; omega), show 6 * y + x = v3 by omega]; (try unfold ov_gci); (repeat' split) <;> omega), (fun e => absurd e (by omega))⟩⟩
            · skip
              refine ov_blk (ls2 := [(0, ov_r 0), (1, ov_i x), (2, ov_i y), (3, ov_i way), (4, ov_i s), (5, ov_i v3)]) (st2 := [ov_i 1]) (pc2 := 60) b_96_59_1 rfl rfl ?_
              refine ov_goto (tgt := 64) d_96_60 (by decide) ?_
              exact ov_reti (st := []) d_96_64 rfl ⟨_, rfl, rfl, rfl, trivial, ⟨fun _ => (by unfold ov_grc; rw [ov_ite_t (show ov_mayc (h 58) (h 65) x y way s by unfold ov_mayc; rw [show 6 * y + x = v3 by omega]; omega), show 6 * y + x = v3 by omega]; (try unfold ov_gci); (repeat' split) <;> omega), (fun e => absurd e (by omega))⟩⟩
        · skip
          refine ov_blk (ls2 := [(0, ov_r 0), (1, ov_i x), (2, ov_i y), (3, ov_i way), (4, ov_i s), (5, ov_i v3)]) (st2 := [ov_i (-1)]) (pc2 := 39) b_96_38_1 rfl rfl ?_
          exact ov_reti (st := []) d_96_39 rfl ⟨_, rfl, rfl, rfl, trivial, ⟨fun _ => (by unfold ov_grc; rw [ov_ite_f (fun q : ov_mayc (h 58) (h 65) x y way s => by unfold ov_mayc at q; (first | omega | (rw [show 6 * y + x = v3 by omega] at q; omega)))]), (fun e => absurd e (by omega))⟩⟩
  · skip
    refine ov_getf (v := ov_r 70) d_96_1 fl_OF_78 (zb_0 I) (zs_0 I) (congrArg ov_r e1) ?_
    refine ov_blk (ls2 := [(0, ov_r 0), (1, ov_i x), (2, ov_i y), (3, ov_i way), (4, ov_i s)]) (st2 := [ov_i y, ov_i x, ov_r 70]) (pc2 := 6) b_96_4_2 rfl rfl ?_
    refine ov_cV (as := [ov_i x, ov_i y]) (st := []) (d2 := d - 1) d_96_6 lk_OF_131 rfl (Nat.le_of_ble_eq_true rfl) (c := 9) (zb_70 I) (zs_70 I) ⟨by decide, rfl⟩ (by omega) (c_Town_corner_70_t (d - 1) (by omega) U I x y (by omega) (by omega)) ?_
    rintro _ _ _ ⟨v22, rfl, rfl, rfl, f21⟩
    show ov_R u d ov_m96 9 [(0, ov_r 0), (1, ov_i x), (2, ov_i y), (3, ov_i way), (4, ov_i s)] [ov_i v22] z h (P_OF_green_0_t F z h x y way s)
    have f23 : (v22 = -1 ∧ (x < 0 ∨ (h 70 0) ≤ x ∨ y < 0 ∨ (h 70 1) ≤ y) ∨ 0 ≤ x ∧ x < (h 70 0) ∧ 0 ≤ y ∧ y < (h 70 1) ∧ v22 = 6 * y + x ∧ (h 70 0) ≤ 6 ∧ (h 70 1) ≤ 9) := f21
    clear f21
    refine ov_blk (ls2 := [(0, ov_r 0), (1, ov_i x), (2, ov_i y), (3, ov_i way), (4, ov_i s), (5, ov_i v22)]) (st2 := [ov_i (-1), ov_i v22]) (pc2 := 14) b_96_9_3 rfl rfl ?_
    refine ov_iceq (tgt := 38) d_96_14 (by decide) (by omega) (by omega) (fun c24 => ?_) (fun c24 => ?_)
    · skip
      refine ov_blk (ls2 := [(0, ov_r 0), (1, ov_i x), (2, ov_i y), (3, ov_i way), (4, ov_i s), (5, ov_i v22)]) (st2 := [ov_i (-1)]) (pc2 := 39) b_96_38_1 rfl rfl ?_
      exact ov_reti (st := []) d_96_39 rfl ⟨_, rfl, rfl, rfl, trivial, ⟨(fun e => absurd e (by omega)), fun _ => (by unfold ov_grc; rw [ov_ite_f (fun q : ov_mayc (h 70) (h 77) x y way s => by unfold ov_mayc at q; (first | omega | (rw [show 6 * y + x = v22 by omega] at q; omega)))])⟩⟩
    · skip
      refine ov_blk (ls2 := [(0, ov_r 0), (1, ov_i x), (2, ov_i y), (3, ov_i way), (4, ov_i s), (5, ov_i v22)]) (st2 := [ov_i s]) (pc2 := 19) b_96_17_1 rfl rfl ?_
      refine ov_cS (as := [ov_i s]) (st := []) (d2 := d - 1) d_96_19 lk_OF_155 rfl (Nat.le_of_ble_eq_true rfl) (by omega) (c_OF_isSecond_t (d - 1) (by omega) U I s (by omega)) ?_
      rintro _ _ _ ⟨v26, rfl, rfl, rfl, f25⟩
      show ov_R u d ov_m96 22 [(0, ov_r 0), (1, ov_i x), (2, ov_i y), (3, ov_i way), (4, ov_i s), (5, ov_i v22)] [ov_i v26] z h (P_OF_green_0_t F z h x y way s)
      have f27 : (v26 = 0 ∧ (s < 0 ∨ 1000000 < s) ∨ v26 = 1 ∧ 0 ≤ s ∧ s ≤ 1000000) := f25
      clear f25
      refine ov_ifeq (tgt := 38) d_96_22 (by decide) (by omega) (fun c28 => ?_) (fun c28 => ?_)
      · skip
        refine ov_blk (ls2 := [(0, ov_r 0), (1, ov_i x), (2, ov_i y), (3, ov_i way), (4, ov_i s), (5, ov_i v22)]) (st2 := [ov_i (-1)]) (pc2 := 39) b_96_38_1 rfl rfl ?_
        exact ov_reti (st := []) d_96_39 rfl ⟨_, rfl, rfl, rfl, trivial, ⟨(fun e => absurd e (by omega)), fun _ => (by unfold ov_grc; rw [ov_ite_f (fun q : ov_mayc (h 70) (h 77) x y way s => by unfold ov_mayc at q; (first | omega | (rw [show 6 * y + x = v22 by omega] at q; omega)))])⟩⟩
      · skip
        refine ov_blk (ls2 := [(0, ov_r 0), (1, ov_i x), (2, ov_i y), (3, ov_i way), (4, ov_i s), (5, ov_i v22)]) (st2 := [ov_r 0]) (pc2 := 26) b_96_25_1 rfl rfl ?_
        refine ov_getf (v := ov_r 70) d_96_26 fl_OF_78 (zb_0 I) (zs_0 I) (congrArg ov_r e1) ?_
        refine ov_blk (ls2 := [(0, ov_r 0), (1, ov_i x), (2, ov_i y), (3, ov_i way), (4, ov_i s), (5, ov_i v22)]) (st2 := [ov_i way, ov_i v22, ov_r 70]) (pc2 := 32) b_96_29_2 rfl rfl ?_
        refine ov_cV (as := [ov_i v22, ov_i way]) (st := []) (d2 := d - 1) d_96_32 lk_OF_158 rfl (Nat.le_of_ble_eq_true rfl) (c := 9) (zb_70 I) (zs_70 I) ⟨by decide, rfl⟩ (by omega) (c_Town_isOpen_70_t (d - 1) (by omega) U I v22 way (by omega) (by omega) (by omega)) ?_
        rintro _ _ _ ⟨v30, rfl, rfl, rfl, f29⟩
        show ov_R u d ov_m96 35 [(0, ov_r 0), (1, ov_i x), (2, ov_i y), (3, ov_i way), (4, ov_i s), (5, ov_i v22)] [ov_i v30] z h (P_OF_green_0_t F z h x y way s)
        have f31 : (v30 = 0 ∨ v30 = 1) ∧ (way = 0 → v30 = (h 77 v22) % 2) ∧ (way = 1 → v30 = (h 77 v22) / 2) ∧ (way < 0 ∨ 1 < way → v30 = 0) := f29
        clear f29
        refine ov_ifne (tgt := 40) d_96_35 (by decide) (by omega) (fun c32 => ?_) (fun c32 => ?_)
        · skip
          refine ov_blk (ls2 := [(0, ov_r 0), (1, ov_i x), (2, ov_i y), (3, ov_i way), (4, ov_i s), (5, ov_i v22)]) (st2 := [ov_r 0]) (pc2 := 41) b_96_40_1 rfl rfl ?_
          refine ov_getf (v := ov_r 70) d_96_41 fl_OF_78 (zb_0 I) (zs_0 I) (congrArg ov_r e1) ?_
          refine ov_getf (v := ov_r 71) d_96_44 fl_OF_139 (zb_70 I) (zs_70 I) (congrArg ov_r (rg_70_2 I)) ?_
          refine ov_blk (ls2 := [(0, ov_r 0), (1, ov_i x), (2, ov_i y), (3, ov_i way), (4, ov_i s), (5, ov_i v22)]) (st2 := [ov_i v22, ov_r 71]) (pc2 := 49) b_96_47_1 rfl rfl ?_
          refine ov_iald d_96_49 (zb_71 I) (zs_71 I) (by omega) ?_
          have g33 := ra_71 I v22
          refine ov_blk (ls2 := [(0, ov_r 0), (1, ov_i x), (2, ov_i y), (3, ov_i way), (4, ov_i s), (5, ov_i v22)]) (st2 := [ov_i 2, ov_i (h 71 v22)]) (pc2 := 51) b_96_50_1 rfl rfl ?_
          refine ov_icne (tgt := 65) d_96_51 (by decide) (by omega) (by omega) (fun c34 => ?_) (fun c34 => ?_)
          · skip
            refine ov_blk (ls2 := [(0, ov_r 0), (1, ov_i x), (2, ov_i y), (3, ov_i way), (4, ov_i s), (5, ov_i v22)]) (st2 := [ov_r 0]) (pc2 := 66) b_96_65_1 rfl rfl ?_
            refine ov_getf (v := ov_r 70) d_96_66 fl_OF_78 (zb_0 I) (zs_0 I) (congrArg ov_r e1) ?_
            refine ov_blk (ls2 := [(0, ov_r 0), (1, ov_i x), (2, ov_i y), (3, ov_i way), (4, ov_i s), (5, ov_i v22)]) (st2 := [ov_i s, ov_i way, ov_i v22, ov_r 70]) (pc2 := 74) b_96_69_3 rfl rfl ?_
            refine ov_cV (as := [ov_i v22, ov_i way, ov_i s]) (st := []) (d2 := d - 1) d_96_74 lk_OF_162 rfl (Nat.le_of_ble_eq_true rfl) (c := 9) (zb_70 I) (zs_70 I) ⟨by decide, rfl⟩ (by omega) (c_Town_waitFor_70_b (d - 1) (by omega) U I v22 way s (by omega) (by omega) (by omega) (by omega) (by omega)) ?_
            rintro _ _ _ ⟨v36, rfl, rfl, rfl, f35⟩
            show ov_R u d ov_m96 77 [(0, ov_r 0), (1, ov_i x), (2, ov_i y), (3, ov_i way), (4, ov_i s), (5, ov_i v22)] [ov_i v36] z h (P_OF_green_0_t F z h x y way s)
            have f37 : v36 = ov_wtv (h 71 v22) (h 72 v22) (h 73 v22) (h 74 v22) way s ∧ 0 ≤ v36 ∧ v36 ≤ 60 := f35
            clear f35
            refine ov_ifne (tgt := 84) d_96_77 (by decide) (by omega) (fun c38 => ?_) (fun c38 => ?_)
            · skip
              refine ov_blk (ls2 := [(0, ov_r 0), (1, ov_i x), (2, ov_i y), (3, ov_i way), (4, ov_i s), (5, ov_i v22)]) (st2 := [ov_i 0]) (pc2 := 85) b_96_84_1 rfl rfl ?_
              exact ov_reti (st := []) d_96_85 rfl ⟨_, rfl, rfl, rfl, trivial, ⟨(fun e => absurd e (by omega)), fun _ => (by unfold ov_grc; rw [ov_ite_t (show ov_mayc (h 70) (h 77) x y way s by unfold ov_mayc; rw [show 6 * y + x = v22 by omega]; omega), show 6 * y + x = v22 by omega]; (try unfold ov_gci); (repeat' split) <;> omega)⟩⟩
            · skip
              refine ov_blk (ls2 := [(0, ov_r 0), (1, ov_i x), (2, ov_i y), (3, ov_i way), (4, ov_i s), (5, ov_i v22)]) (st2 := [ov_i 1]) (pc2 := 81) b_96_80_1 rfl rfl ?_
              refine ov_goto (tgt := 85) d_96_81 (by decide) ?_
              exact ov_reti (st := []) d_96_85 rfl ⟨_, rfl, rfl, rfl, trivial, ⟨(fun e => absurd e (by omega)), fun _ => (by unfold ov_grc; rw [ov_ite_t (show ov_mayc (h 70) (h 77) x y way s by unfold ov_mayc; rw [show 6 * y + x = v22 by omega]; omega), show 6 * y + x = v22 by omega]; (try unfold ov_gci); (repeat' split) <;> omega)⟩⟩
          · skip
            refine ov_blk (ls2 := [(0, ov_r 0), (1, ov_i x), (2, ov_i y), (3, ov_i way), (4, ov_i s), (5, ov_i v22)]) (st2 := [ov_i 1, ov_i way]) (pc2 := 56) b_96_54_2 rfl rfl ?_
            refine ov_icne (tgt := 63) d_96_56 (by decide) (by omega) (by omega) (fun c39 => ?_) (fun c39 => ?_)
            · skip
              refine ov_blk (ls2 := [(0, ov_r 0), (1, ov_i x), (2, ov_i y), (3, ov_i way), (4, ov_i s), (5, ov_i v22)]) (st2 := [ov_i 0]) (pc2 := 64) b_96_63_1 rfl rfl ?_
              exact ov_reti (st := []) d_96_64 rfl ⟨_, rfl, rfl, rfl, trivial, ⟨(fun e => absurd e (by omega)), fun _ => (by unfold ov_grc; rw [ov_ite_t (show ov_mayc (h 70) (h 77) x y way s by unfold ov_mayc; rw [show 6 * y + x = v22 by omega]; omega), show 6 * y + x = v22 by omega]; (try unfold ov_gci); (repeat' split) <;> omega)⟩⟩
            · skip
              refine ov_blk (ls2 := [(0, ov_r 0), (1, ov_i x), (2, ov_i y), (3, ov_i way), (4, ov_i s), (5, ov_i v22)]) (st2 := [ov_i 1]) (pc2 := 60) b_96_59_1 rfl rfl ?_
              refine ov_goto (tgt := 64) d_96_60 (by decide) ?_
              exact ov_reti (st := []) d_96_64 rfl ⟨_, rfl, rfl, rfl, trivial, ⟨(fun e => absurd e (by omega)), fun _ => (by unfold ov_grc; rw [ov_ite_t (show ov_mayc (h 70) (h 77) x y way s by unfold ov_mayc; rw [show 6 * y + x = v22 by omega]; omega), show 6 * y + x = v22 by omega]; (try unfold ov_gci); (repeat' split) <;> omega)⟩⟩
        · skip
          refine ov_blk (ls2 := [(0, ov_r 0), (1, ov_i x), (2, ov_i y), (3, ov_i way), (4, ov_i s), (5, ov_i v22)]) (st2 := [ov_i (-1)]) (pc2 := 39) b_96_38_1 rfl rfl ?_
          exact ov_reti (st := []) d_96_39 rfl ⟨_, rfl, rfl, rfl, trivial, ⟨(fun e => absurd e (by omega)), fun _ => (by unfold ov_grc; rw [ov_ite_f (fun q : ov_mayc (h 70) (h 77) x y way s => by unfold ov_mayc at q; (first | omega | (rw [show 6 * y + x = v22 by omega] at q; omega)))])⟩⟩
abbrev P_OF_until_0_t (F : ov_H) (z : ov_Z) (h : ov_H) (x : Int) (y : Int) (way : Int) (s : Int) : Option ov_V → ov_Z → ov_H → Prop := fun r0 z' h' => ∃ r : Int, r0 = some (ov_i r) ∧ z = z' ∧ h = h' ∧ (True) ∧ (h 0 10 = 58 → r = ov_unc (h 58) (h 59) (h 60) (h 61) (h 62) (h 65) x y way s) ∧ (h 0 10 = 70 → r = ov_unc (h 70) (h 71) (h 72) (h 73) (h 74) (h 77) x y way s)
set_option maxHeartbeats 4000000 in
theorem c_OF_until_0_t {u : ov_U} {F : ov_H} {z : ov_Z} {h : ov_H} (d : Nat) (hd : 5 ≤ d) (U : ov_cap u) (I : ov_I F z h) (x : Int) (y : Int) (way : Int) (s : Int) (g_x : ov_g x) (g_y : ov_g y) (g_way : ov_g way) (g_s : ov_g s) : ov_T u d ov_m101 [ov_r 0, ov_i x, ov_i y, ov_i way, ov_i s] z h (P_OF_until_0_t F z h x y way s) := by
  refine ov_en rfl (Nat.le_of_ble_eq_true rfl) ?_
  show ov_R u d ov_m101 0 [(0, ov_r 0), (1, ov_i x), (2, ov_i y), (3, ov_i way), (4, ov_i s)] [] z h (P_OF_until_0_t F z h x y way s)
  refine ov_blk (ls2 := [(0, ov_r 0), (1, ov_i x), (2, ov_i y), (3, ov_i way), (4, ov_i s)]) (st2 := [ov_r 0]) (pc2 := 1) b_101_0_1 rfl rfl ?_
  rcases rg_0_10 I with e1 | e1
  · skip
    refine ov_getf (v := ov_r 58) d_101_1 fl_OF_78 (zb_0 I) (zs_0 I) (congrArg ov_r e1) ?_
    refine ov_blk (ls2 := [(0, ov_r 0), (1, ov_i x), (2, ov_i y), (3, ov_i way), (4, ov_i s)]) (st2 := [ov_i y, ov_i x, ov_r 58]) (pc2 := 6) b_101_4_2 rfl rfl ?_
    refine ov_cV (as := [ov_i x, ov_i y]) (st := []) (d2 := d - 1) d_101_6 lk_OF_131 rfl (Nat.le_of_ble_eq_true rfl) (c := 9) (zb_58 I) (zs_58 I) ⟨by decide, rfl⟩ (by omega) (c_Town_corner_58_t (d - 1) (by omega) U I x y (by omega) (by omega)) ?_
    rintro _ _ _ ⟨v3, rfl, rfl, rfl, f2⟩
    show ov_R u d ov_m101 9 [(0, ov_r 0), (1, ov_i x), (2, ov_i y), (3, ov_i way), (4, ov_i s)] [ov_i v3] z h (P_OF_until_0_t F z h x y way s)
    have f4 : (v3 = -1 ∧ (x < 0 ∨ (h 58 0) ≤ x ∨ y < 0 ∨ (h 58 1) ≤ y) ∨ 0 ≤ x ∧ x < (h 58 0) ∧ 0 ≤ y ∧ y < (h 58 1) ∧ v3 = 6 * y + x ∧ (h 58 0) ≤ 6 ∧ (h 58 1) ≤ 9) := f2
    clear f2
    refine ov_blk (ls2 := [(0, ov_r 0), (1, ov_i x), (2, ov_i y), (3, ov_i way), (4, ov_i s), (5, ov_i v3)]) (st2 := [ov_i (-1), ov_i v3]) (pc2 := 14) b_101_9_3 rfl rfl ?_
    refine ov_iceq (tgt := 38) d_101_14 (by decide) (by omega) (by omega) (fun c5 => ?_) (fun c5 => ?_)
    · skip
      refine ov_blk (ls2 := [(0, ov_r 0), (1, ov_i x), (2, ov_i y), (3, ov_i way), (4, ov_i s), (5, ov_i v3)]) (st2 := [ov_i (-1)]) (pc2 := 39) b_101_38_1 rfl rfl ?_
      exact ov_reti (st := []) d_101_39 rfl ⟨_, rfl, rfl, rfl, trivial, ⟨fun _ => (by unfold ov_unc; rw [ov_ite_f (fun q : ov_mayc (h 58) (h 65) x y way s => by unfold ov_mayc at q; (first | omega | (rw [show 6 * y + x = v3 by omega] at q; omega)))]), (fun e => absurd e (by omega))⟩⟩
    · skip
      refine ov_blk (ls2 := [(0, ov_r 0), (1, ov_i x), (2, ov_i y), (3, ov_i way), (4, ov_i s), (5, ov_i v3)]) (st2 := [ov_i s]) (pc2 := 19) b_101_17_1 rfl rfl ?_
      refine ov_cS (as := [ov_i s]) (st := []) (d2 := d - 1) d_101_19 lk_OF_155 rfl (Nat.le_of_ble_eq_true rfl) (by omega) (c_OF_isSecond_t (d - 1) (by omega) U I s (by omega)) ?_
      rintro _ _ _ ⟨v7, rfl, rfl, rfl, f6⟩
      show ov_R u d ov_m101 22 [(0, ov_r 0), (1, ov_i x), (2, ov_i y), (3, ov_i way), (4, ov_i s), (5, ov_i v3)] [ov_i v7] z h (P_OF_until_0_t F z h x y way s)
      have f8 : (v7 = 0 ∧ (s < 0 ∨ 1000000 < s) ∨ v7 = 1 ∧ 0 ≤ s ∧ s ≤ 1000000) := f6
      clear f6
      refine ov_ifeq (tgt := 38) d_101_22 (by decide) (by omega) (fun c9 => ?_) (fun c9 => ?_)
      · skip
        refine ov_blk (ls2 := [(0, ov_r 0), (1, ov_i x), (2, ov_i y), (3, ov_i way), (4, ov_i s), (5, ov_i v3)]) (st2 := [ov_i (-1)]) (pc2 := 39) b_101_38_1 rfl rfl ?_
        exact ov_reti (st := []) d_101_39 rfl ⟨_, rfl, rfl, rfl, trivial, ⟨fun _ => (by unfold ov_unc; rw [ov_ite_f (fun q : ov_mayc (h 58) (h 65) x y way s => by unfold ov_mayc at q; (first | omega | (rw [show 6 * y + x = v3 by omega] at q; omega)))]), (fun e => absurd e (by omega))⟩⟩
      · skip
        refine ov_blk (ls2 := [(0, ov_r 0), (1, ov_i x), (2, ov_i y), (3, ov_i way), (4, ov_i s), (5, ov_i v3)]) (st2 := [ov_r 0]) (pc2 := 26) b_101_25_1 rfl rfl ?_
        refine ov_getf (v := ov_r 58) d_101_26 fl_OF_78 (zb_0 I) (zs_0 I) (congrArg ov_r e1) ?_
        refine ov_blk (ls2 := [(0, ov_r 0), (1, ov_i x), (2, ov_i y), (3, ov_i way), (4, ov_i s), (5, ov_i v3)]) (st2 := [ov_i way, ov_i v3, ov_r 58]) (pc2 := 32) b_101_29_2 rfl rfl ?_
        refine ov_cV (as := [ov_i v3, ov_i way]) (st := []) (d2 := d - 1) d_101_32 lk_OF_158 rfl (Nat.le_of_ble_eq_true rfl) (c := 9) (zb_58 I) (zs_58 I) ⟨by decide, rfl⟩ (by omega) (c_Town_isOpen_58_t (d - 1) (by omega) U I v3 way (by omega) (by omega) (by omega)) ?_
        rintro _ _ _ ⟨v11, rfl, rfl, rfl, f10⟩
        show ov_R u d ov_m101 35 [(0, ov_r 0), (1, ov_i x), (2, ov_i y), (3, ov_i way), (4, ov_i s), (5, ov_i v3)] [ov_i v11] z h (P_OF_until_0_t F z h x y way s)
        have f12 : (v11 = 0 ∨ v11 = 1) ∧ (way = 0 → v11 = (h 65 v3) % 2) ∧ (way = 1 → v11 = (h 65 v3) / 2) ∧ (way < 0 ∨ 1 < way → v11 = 0) := f10
        clear f10
        refine ov_ifne (tgt := 40) d_101_35 (by decide) (by omega) (fun c13 => ?_) (fun c13 => ?_)
        · skip
          refine ov_blk (ls2 := [(0, ov_r 0), (1, ov_i x), (2, ov_i y), (3, ov_i way), (4, ov_i s), (5, ov_i v3)]) (st2 := [ov_r 0]) (pc2 := 41) b_101_40_1 rfl rfl ?_
          refine ov_getf (v := ov_r 58) d_101_41 fl_OF_78 (zb_0 I) (zs_0 I) (congrArg ov_r e1) ?_
          refine ov_blk (ls2 := [(0, ov_r 0), (1, ov_i x), (2, ov_i y), (3, ov_i way), (4, ov_i s), (5, ov_i v3)]) (st2 := [ov_i s, ov_i way, ov_i v3, ov_r 58]) (pc2 := 49) b_101_44_3 rfl rfl ?_
          refine ov_cV (as := [ov_i v3, ov_i way, ov_i s]) (st := []) (d2 := d - 1) d_101_49 lk_OF_162 rfl (Nat.le_of_ble_eq_true rfl) (c := 9) (zb_58 I) (zs_58 I) ⟨by decide, rfl⟩ (by omega) (c_Town_waitFor_58_b (d - 1) (by omega) U I v3 way s (by omega) (by omega) (by omega) (by omega) (by omega)) ?_
          rintro _ _ _ ⟨v15, rfl, rfl, rfl, f14⟩
          show ov_R u d ov_m101 52 [(0, ov_r 0), (1, ov_i x), (2, ov_i y), (3, ov_i way), (4, ov_i s), (5, ov_i v3)] [ov_i v15] z h (P_OF_until_0_t F z h x y way s)
          have f16 : v15 = ov_wtv (h 59 v3) (h 60 v3) (h 61 v3) (h 62 v3) way s ∧ 0 ≤ v15 ∧ v15 ≤ 60 := f14
          clear f14
          exact ov_reti (st := []) d_101_52 rfl ⟨_, rfl, rfl, rfl, trivial, ⟨fun _ => (by unfold ov_unc; rw [ov_ite_t (show ov_mayc (h 58) (h 65) x y way s by unfold ov_mayc; rw [show 6 * y + x = v3 by omega]; omega), show 6 * y + x = v3 by omega]; (try unfold ov_gci); (repeat' split) <;> omega), (fun e => absurd e (by omega))⟩⟩
        · skip
          refine ov_blk (ls2 := [(0, ov_r 0), (1, ov_i x), (2, ov_i y), (3, ov_i way), (4, ov_i s), (5, ov_i v3)]) (st2 := [ov_i (-1)]) (pc2 := 39) b_101_38_1 rfl rfl ?_
          exact ov_reti (st := []) d_101_39 rfl ⟨_, rfl, rfl, rfl, trivial, ⟨fun _ => (by unfold ov_unc; rw [ov_ite_f (fun q : ov_mayc (h 58) (h 65) x y way s => by unfold ov_mayc at q; (first | omega | (rw [show 6 * y + x = v3 by omega] at q; omega)))]), (fun e => absurd e (by omega))⟩⟩
  · skip
    refine ov_getf (v := ov_r 70) d_101_1 fl_OF_78 (zb_0 I) (zs_0 I) (congrArg ov_r e1) ?_
    refine ov_blk (ls2 := [(0, ov_r 0), (1, ov_i x), (2, ov_i y), (3, ov_i way), (4, ov_i s)]) (st2 := [ov_i y, ov_i x, ov_r 70]) (pc2 := 6) b_101_4_2 rfl rfl ?_
    refine ov_cV (as := [ov_i x, ov_i y]) (st := []) (d2 := d - 1) d_101_6 lk_OF_131 rfl (Nat.le_of_ble_eq_true rfl) (c := 9) (zb_70 I) (zs_70 I) ⟨by decide, rfl⟩ (by omega) (c_Town_corner_70_t (d - 1) (by omega) U I x y (by omega) (by omega)) ?_
    rintro _ _ _ ⟨v18, rfl, rfl, rfl, f17⟩
    show ov_R u d ov_m101 9 [(0, ov_r 0), (1, ov_i x), (2, ov_i y), (3, ov_i way), (4, ov_i s)] [ov_i v18] z h (P_OF_until_0_t F z h x y way s)
    have f19 : (v18 = -1 ∧ (x < 0 ∨ (h 70 0) ≤ x ∨ y < 0 ∨ (h 70 1) ≤ y) ∨ 0 ≤ x ∧ x < (h 70 0) ∧ 0 ≤ y ∧ y < (h 70 1) ∧ v18 = 6 * y + x ∧ (h 70 0) ≤ 6 ∧ (h 70 1) ≤ 9) := f17
    clear f17
    refine ov_blk (ls2 := [(0, ov_r 0), (1, ov_i x), (2, ov_i y), (3, ov_i way), (4, ov_i s), (5, ov_i v18)]) (st2 := [ov_i (-1), ov_i v18]) (pc2 := 14) b_101_9_3 rfl rfl ?_
    refine ov_iceq (tgt := 38) d_101_14 (by decide) (by omega) (by omega) (fun c20 => ?_) (fun c20 => ?_)
    · skip
      refine ov_blk (ls2 := [(0, ov_r 0), (1, ov_i x), (2, ov_i y), (3, ov_i way), (4, ov_i s), (5, ov_i v18)]) (st2 := [ov_i (-1)]) (pc2 := 39) b_101_38_1 rfl rfl ?_
      exact ov_reti (st := []) d_101_39 rfl ⟨_, rfl, rfl, rfl, trivial, ⟨(fun e => absurd e (by omega)), fun _ => (by unfold ov_unc; rw [ov_ite_f (fun q : ov_mayc (h 70) (h 77) x y way s => by unfold ov_mayc at q; (first | omega | (rw [show 6 * y + x = v18 by omega] at q; omega)))])⟩⟩
    · skip
      refine ov_blk (ls2 := [(0, ov_r 0), (1, ov_i x), (2, ov_i y), (3, ov_i way), (4, ov_i s), (5, ov_i v18)]) (st2 := [ov_i s]) (pc2 := 19) b_101_17_1 rfl rfl ?_
      refine ov_cS (as := [ov_i s]) (st := []) (d2 := d - 1) d_101_19 lk_OF_155 rfl (Nat.le_of_ble_eq_true rfl) (by omega) (c_OF_isSecond_t (d - 1) (by omega) U I s (by omega)) ?_
      rintro _ _ _ ⟨v22, rfl, rfl, rfl, f21⟩
      show ov_R u d ov_m101 22 [(0, ov_r 0), (1, ov_i x), (2, ov_i y), (3, ov_i way), (4, ov_i s), (5, ov_i v18)] [ov_i v22] z h (P_OF_until_0_t F z h x y way s)
      have f23 : (v22 = 0 ∧ (s < 0 ∨ 1000000 < s) ∨ v22 = 1 ∧ 0 ≤ s ∧ s ≤ 1000000) := f21
      clear f21
      refine ov_ifeq (tgt := 38) d_101_22 (by decide) (by omega) (fun c24 => ?_) (fun c24 => ?_)
      · skip
        refine ov_blk (ls2 := [(0, ov_r 0), (1, ov_i x), (2, ov_i y), (3, ov_i way), (4, ov_i s), (5, ov_i v18)]) (st2 := [ov_i (-1)]) (pc2 := 39) b_101_38_1 rfl rfl ?_
        exact ov_reti (st := []) d_101_39 rfl ⟨_, rfl, rfl, rfl, trivial, ⟨(fun e => absurd e (by omega)), fun _ => (by unfold ov_unc; rw [ov_ite_f (fun q : ov_mayc (h 70) (h 77) x y way s => by unfold ov_mayc at q; (first | omega | (rw [show 6 * y + x = v18 by omega] at q; omega)))])⟩⟩
      · skip
        refine ov_blk (ls2 := [(0, ov_r 0), (1, ov_i x), (2, ov_i y), (3, ov_i way), (4, ov_i s), (5, ov_i v18)]) (st2 := [ov_r 0]) (pc2 := 26) b_101_25_1 rfl rfl ?_
        refine ov_getf (v := ov_r 70) d_101_26 fl_OF_78 (zb_0 I) (zs_0 I) (congrArg ov_r e1) ?_
        refine ov_blk (ls2 := [(0, ov_r 0), (1, ov_i x), (2, ov_i y), (3, ov_i way), (4, ov_i s), (5, ov_i v18)]) (st2 := [ov_i way, ov_i v18, ov_r 70]) (pc2 := 32) b_101_29_2 rfl rfl ?_
        refine ov_cV (as := [ov_i v18, ov_i way]) (st := []) (d2 := d - 1) d_101_32 lk_OF_158 rfl (Nat.le_of_ble_eq_true rfl) (c := 9) (zb_70 I) (zs_70 I) ⟨by decide, rfl⟩ (by omega) (c_Town_isOpen_70_t (d - 1) (by omega) U I v18 way (by omega) (by omega) (by omega)) ?_
        rintro _ _ _ ⟨v26, rfl, rfl, rfl, f25⟩
        show ov_R u d ov_m101 35 [(0, ov_r 0), (1, ov_i x), (2, ov_i y), (3, ov_i way), (4, ov_i s), (5, ov_i v18)] [ov_i v26] z h (P_OF_until_0_t F z h x y way s)
        have f27 : (v26 = 0 ∨ v26 = 1) ∧ (way = 0 → v26 = (h 77 v18) % 2) ∧ (way = 1 → v26 = (h 77 v18) / 2) ∧ (way < 0 ∨ 1 < way → v26 = 0) := f25
        clear f25
        refine ov_ifne (tgt := 40) d_101_35 (by decide) (by omega) (fun c28 => ?_) (fun c28 => ?_)
        · skip
          refine ov_blk (ls2 := [(0, ov_r 0), (1, ov_i x), (2, ov_i y), (3, ov_i way), (4, ov_i s), (5, ov_i v18)]) (st2 := [ov_r 0]) (pc2 := 41) b_101_40_1 rfl rfl ?_
          refine ov_getf (v := ov_r 70) d_101_41 fl_OF_78 (zb_0 I) (zs_0 I) (congrArg ov_r e1) ?_
          refine ov_blk (ls2 := [(0, ov_r 0), (1, ov_i x), (2, ov_i y), (3, ov_i way), (4, ov_i s), (5, ov_i v18)]) (st2 := [ov_i s, ov_i way, ov_i v18, ov_r 70]) (pc2 := 49) b_101_44_3 rfl rfl ?_
          refine ov_cV (as := [ov_i v18, ov_i way, ov_i s]) (st := []) (d2 := d - 1) d_101_49 lk_OF_162 rfl (Nat.le_of_ble_eq_true rfl) (c := 9) (zb_70 I) (zs_70 I) ⟨by decide, rfl⟩ (by omega) (c_Town_waitFor_70_b (d - 1) (by omega) U I v18 way s (by omega) (by omega) (by omega) (by omega) (by omega)) ?_
          rintro _ _ _ ⟨v30, rfl, rfl, rfl, f29⟩
          show ov_R u d ov_m101 52 [(0, ov_r 0), (1, ov_i x), (2, ov_i y), (3, ov_i way), (4, ov_i s), (5, ov_i v18)] [ov_i v30] z h (P_OF_until_0_t F z h x y way s)
          have f31 : v30 = ov_wtv (h 71 v18) (h 72 v18) (h 73 v18) (h 74 v18) way s ∧ 0 ≤ v30 ∧ v30 ≤ 60 := f29
          clear f29
          exact ov_reti (st := []) d_101_52 rfl ⟨_, rfl, rfl, rfl, trivial, ⟨(fun e => absurd e (by omega)), fun _ => (by unfold ov_unc; rw [ov_ite_t (show ov_mayc (h 70) (h 77) x y way s by unfold ov_mayc; rw [show 6 * y + x = v18 by omega]; omega), show 6 * y + x = v18 by omega]; (try unfold ov_gci); (repeat' split) <;> omega)⟩⟩
        · skip
          refine ov_blk (ls2 := [(0, ov_r 0), (1, ov_i x), (2, ov_i y), (3, ov_i way), (4, ov_i s), (5, ov_i v18)]) (st2 := [ov_i (-1)]) (pc2 := 39) b_101_38_1 rfl rfl ?_
          exact ov_reti (st := []) d_101_39 rfl ⟨_, rfl, rfl, rfl, trivial, ⟨(fun e => absurd e (by omega)), fun _ => (by unfold ov_unc; rw [ov_ite_f (fun q : ov_mayc (h 70) (h 77) x y way s => by unfold ov_mayc at q; (first | omega | (rw [show 6 * y + x = v18 by omega] at q; omega)))])⟩⟩

abbrev P_Mo_isSecond_90_t (F : ov_H × ov_Z) (z : ov_Z) (h : ov_H) (s : Int) : Option ov_V → ov_Z → ov_H → Prop := fun r0 z' h' => ∃ r : Int, r0 = some (ov_i r) ∧ z = z' ∧ h = h' ∧ ((r = 0 ∨ r = 1) ∧ (r = 1 → 0 ≤ s ∧ s ≤ 1000000) ∧ (r = 0 → s < 0 ∨ 1000000 < s))
set_option maxHeartbeats 4000000 in
theorem c_Mo_isSecond_90_t {u : ov_U} {F : ov_H × ov_Z} {z : ov_Z} {h : ov_H} (d : Nat) (hd : 1 ≤ d) (U : ov_cap u) (I : ov_N F z h) (s : Int) (g_s : ov_g s) : ov_T u d ov_m247 [ov_r 90, ov_i s] z h (P_Mo_isSecond_90_t F z h s) := by
  refine ov_en rfl (Nat.le_of_ble_eq_true rfl) ?_
  show ov_R u d ov_m247 0 [(0, ov_r 90), (1, ov_i s)] [] z h (P_Mo_isSecond_90_t F z h s)
  refine ov_blk (ls2 := [(0, ov_r 90), (1, ov_i s)]) (st2 := [ov_i 0, ov_i s]) (pc2 := 2) b_247_0_2 rfl rfl ?_
  refine ov_ldcw (n := 1000000) d_247_2 kc_Mo_305 ?_
  refine ov_cS (as := [ov_i s, ov_i 0, ov_i 1000000]) (st := []) (d2 := d - 1) d_247_5 lk_Mo_299 rfl (Nat.le_of_ble_eq_true rfl) (by omega) (c_Mo_within (d - 1) (by omega) U I s 0 1000000 (by omega) (by omega) (by omega)) ?_
  rintro _ _ _ ⟨v2, rfl, rfl, rfl, f1⟩
  show ov_R u d ov_m247 8 [(0, ov_r 90), (1, ov_i s)] [ov_i v2] z h (P_Mo_isSecond_90_t F z h s)
  have f3 : (v2 = 0 ∨ v2 = 1) ∧ (v2 = 1 → (0 : Int) ≤ s ∧ s ≤ (1000000 : Int)) ∧ (v2 = 0 → s < (0 : Int) ∨ (1000000 : Int) < s) := f1
  clear f1
  exact ov_retz (st := []) d_247_8 rfl (by omega) ⟨_, rfl, rfl, rfl, (by show (v2 = 0 ∨ v2 = 1) ∧ (v2 = 1 → 0 ≤ s ∧ s ≤ 1000000) ∧ (v2 = 0 → s < 0 ∨ 1000000 < s); omega)⟩
abbrev P_Mo_isCorner_90_t (F : ov_H × ov_Z) (z : ov_Z) (h : ov_H) (x : Int) (y : Int) : Option ov_V → ov_Z → ov_H → Prop := fun r0 z' h' => ∃ r : Int, r0 = some (ov_i r) ∧ z = z' ∧ h = h' ∧ ((r = 0 ∨ r = 1) ∧ (r = 1 → 0 ≤ x ∧ x ≤ 5 ∧ 0 ≤ y ∧ y ≤ 8 ∧ x < (h 96 0) ∧ y < (h 96 1)) ∧ (r = 0 → x < 0 ∨ y < 0 ∨ (h 96 0) ≤ x ∨ (h 96 1) ≤ y))
set_option maxHeartbeats 4000000 in
theorem c_Mo_isCorner_90_t {u : ov_U} {F : ov_H × ov_Z} {z : ov_Z} {h : ov_H} (d : Nat) (hd : 1 ≤ d) (U : ov_cap u) (I : ov_N F z h) (x : Int) (y : Int) (g_x : ov_g x) (g_y : ov_g y) : ov_T u d ov_m240 [ov_r 90, ov_i x, ov_i y] z h (P_Mo_isCorner_90_t F z h x y) := by
  refine ov_en rfl (Nat.le_of_ble_eq_true rfl) ?_
  show ov_R u d ov_m240 0 [(0, ov_r 90), (1, ov_i x), (2, ov_i y)] [] z h (P_Mo_isCorner_90_t F z h x y)
  refine ov_blk (ls2 := [(0, ov_r 90), (1, ov_i x), (2, ov_i y)]) (st2 := [ov_i x]) (pc2 := 1) b_240_0_1 rfl rfl ?_
  refine ov_iflt (tgt := 28) d_240_1 (by decide) (by omega) (fun c1 => ?_) (fun c1 => ?_)
  · skip
    refine ov_blk (ls2 := [(0, ov_r 90), (1, ov_i x), (2, ov_i y)]) (st2 := [ov_i 0]) (pc2 := 29) b_240_28_1 rfl rfl ?_
    exact ov_retz (st := []) d_240_29 rfl (by omega) ⟨_, rfl, rfl, rfl, (by show (0 = 0 ∨ 0 = 1) ∧ (0 = 1 → 0 ≤ x ∧ x ≤ 5 ∧ 0 ≤ y ∧ y ≤ 8 ∧ x < (h 96 0) ∧ y < (h 96 1)) ∧ (0 = 0 → x < 0 ∨ y < 0 ∨ (h 96 0) ≤ x ∨ (h 96 1) ≤ y); omega)⟩
  · skip
    refine ov_blk (ls2 := [(0, ov_r 90), (1, ov_i x), (2, ov_i y)]) (st2 := [ov_r 90, ov_i x]) (pc2 := 6) b_240_4_2 rfl rfl ?_
    refine ov_cV (as := []) (st := [ov_i x]) (d2 := d - 1) d_240_6 lk_Mo_275 rfl (Nat.le_of_ble_eq_true rfl) (c := 1) (zb_90 I) (zs_90 I) ⟨by decide, rfl⟩ (by omega) (c_Mo_wide_90 (d - 1) (by omega) U I) ?_
    rintro _ _ _ ⟨v3, rfl, rfl, rfl, f2⟩
    show ov_R u d ov_m240 9 [(0, ov_r 90), (1, ov_i x), (2, ov_i y)] [ov_i v3, ov_i x] z h (P_Mo_isCorner_90_t F z h x y)
    have f4 : v3 = (h 96 0) ∧ 1 ≤ v3 ∧ v3 ≤ 6 := f2
    clear f2
    refine ov_icge (tgt := 28) d_240_9 (by decide) (by omega) (by omega) (fun c5 => ?_) (fun c5 => ?_)
    · skip
      refine ov_blk (ls2 := [(0, ov_r 90), (1, ov_i x), (2, ov_i y)]) (st2 := [ov_i 0]) (pc2 := 29) b_240_28_1 rfl rfl ?_
      exact ov_retz (st := []) d_240_29 rfl (by omega) ⟨_, rfl, rfl, rfl, (by show (0 = 0 ∨ 0 = 1) ∧ (0 = 1 → 0 ≤ x ∧ x ≤ 5 ∧ 0 ≤ y ∧ y ≤ 8 ∧ x < (h 96 0) ∧ y < (h 96 1)) ∧ (0 = 0 → x < 0 ∨ y < 0 ∨ (h 96 0) ≤ x ∨ (h 96 1) ≤ y); omega)⟩
    · skip
      refine ov_blk (ls2 := [(0, ov_r 90), (1, ov_i x), (2, ov_i y)]) (st2 := [ov_i y]) (pc2 := 13) b_240_12_1 rfl rfl ?_
      refine ov_iflt (tgt := 28) d_240_13 (by decide) (by omega) (fun c6 => ?_) (fun c6 => ?_)
      · skip
        refine ov_blk (ls2 := [(0, ov_r 90), (1, ov_i x), (2, ov_i y)]) (st2 := [ov_i 0]) (pc2 := 29) b_240_28_1 rfl rfl ?_
        exact ov_retz (st := []) d_240_29 rfl (by omega) ⟨_, rfl, rfl, rfl, (by show (0 = 0 ∨ 0 = 1) ∧ (0 = 1 → 0 ≤ x ∧ x ≤ 5 ∧ 0 ≤ y ∧ y ≤ 8 ∧ x < (h 96 0) ∧ y < (h 96 1)) ∧ (0 = 0 → x < 0 ∨ y < 0 ∨ (h 96 0) ≤ x ∨ (h 96 1) ≤ y); omega)⟩
      · skip
        refine ov_blk (ls2 := [(0, ov_r 90), (1, ov_i x), (2, ov_i y)]) (st2 := [ov_r 90, ov_i y]) (pc2 := 18) b_240_16_2 rfl rfl ?_
        refine ov_cV (as := []) (st := [ov_i y]) (d2 := d - 1) d_240_18 lk_Mo_279 rfl (Nat.le_of_ble_eq_true rfl) (c := 1) (zb_90 I) (zs_90 I) ⟨by decide, rfl⟩ (by omega) (c_Mo_deep_90 (d - 1) (by omega) U I) ?_
        rintro _ _ _ ⟨v8, rfl, rfl, rfl, f7⟩
        show ov_R u d ov_m240 21 [(0, ov_r 90), (1, ov_i x), (2, ov_i y)] [ov_i v8, ov_i y] z h (P_Mo_isCorner_90_t F z h x y)
        have f9 : v8 = (h 96 1) ∧ 1 ≤ v8 ∧ v8 ≤ 9 := f7
        clear f7
        refine ov_icge (tgt := 28) d_240_21 (by decide) (by omega) (by omega) (fun c10 => ?_) (fun c10 => ?_)
        · skip
          refine ov_blk (ls2 := [(0, ov_r 90), (1, ov_i x), (2, ov_i y)]) (st2 := [ov_i 0]) (pc2 := 29) b_240_28_1 rfl rfl ?_
          exact ov_retz (st := []) d_240_29 rfl (by omega) ⟨_, rfl, rfl, rfl, (by show (0 = 0 ∨ 0 = 1) ∧ (0 = 1 → 0 ≤ x ∧ x ≤ 5 ∧ 0 ≤ y ∧ y ≤ 8 ∧ x < (h 96 0) ∧ y < (h 96 1)) ∧ (0 = 0 → x < 0 ∨ y < 0 ∨ (h 96 0) ≤ x ∨ (h 96 1) ≤ y); omega)⟩
        · skip
          refine ov_blk (ls2 := [(0, ov_r 90), (1, ov_i x), (2, ov_i y)]) (st2 := [ov_i 1]) (pc2 := 25) b_240_24_1 rfl rfl ?_
          refine ov_goto (tgt := 29) d_240_25 (by decide) ?_
          exact ov_retz (st := []) d_240_29 rfl (by omega) ⟨_, rfl, rfl, rfl, (by show (1 = 0 ∨ 1 = 1) ∧ (1 = 1 → 0 ≤ x ∧ x ≤ 5 ∧ 0 ≤ y ∧ y ≤ 8 ∧ x < (h 96 0) ∧ y < (h 96 1)) ∧ (1 = 0 → x < 0 ∨ y < 0 ∨ (h 96 0) ≤ x ∨ (h 96 1) ≤ y); omega)⟩
abbrev P_Mo_mayAsk_90_t (F : ov_H × ov_Z) (z : ov_Z) (h : ov_H) (x : Int) (y : Int) (way : Int) (s : Int) : Option ov_V → ov_Z → ov_H → Prop := fun r0 z' h' => ∃ r : Int, r0 = some (ov_i r) ∧ z = z' ∧ h = h' ∧ ((r = 0 ∨ r = 1) ∧ (r = 1 → 0 ≤ x ∧ x ≤ 5 ∧ 0 ≤ y ∧ y ≤ 8 ∧ 0 ≤ way ∧ way ≤ 1 ∧ ((way = 0 → x < (h 96 0) - 1) ∧ (¬ way = 0 → y < (h 96 1) - 1)) ∧ (((h 96 (10 + 4 * (6 * y + x))) = 1 ∨ (h 96 (10 + 4 * (6 * y + x))) = 2) → (way = 0 → 0 < (h 96 (10 + 4 * (6 * y + x) + 3))) ∧ (¬ way = 0 → (h 96 (10 + 4 * (6 * y + x) + 3)) < (h 96 (10 + 4 * (6 * y + x) + 1)))) ∧ 0 ≤ x ∧ x < (h 96 0) ∧ 0 ≤ y ∧ y < (h 96 1) ∧ 0 ≤ way ∧ way ≤ 1 ∧ 0 ≤ s ∧ s ≤ 1000000 ∧ ov_cgi (h 96) x y way = 1) ∧ (r = 0 → ¬ (0 ≤ x ∧ x < (h 96 0) ∧ 0 ≤ y ∧ y < (h 96 1) ∧ 0 ≤ way ∧ way ≤ 1 ∧ 0 ≤ s ∧ s ≤ 1000000 ∧ ov_cgi (h 96) x y way = 1)))
set_option maxHeartbeats 4000000 in
theorem c_Mo_mayAsk_90_t {u : ov_U} {F : ov_H × ov_Z} {z : ov_Z} {h : ov_H} (d : Nat) (hd : 3 ≤ d) (U : ov_cap u) (I : ov_N F z h) (x : Int) (y : Int) (way : Int) (s : Int) (g_x : ov_g x) (g_y : ov_g y) (g_way : ov_g way) (g_s : ov_g s) : ov_T u d ov_m246 [ov_r 90, ov_i x, ov_i y, ov_i way, ov_i s] z h (P_Mo_mayAsk_90_t F z h x y way s) := by
  refine ov_en rfl (Nat.le_of_ble_eq_true rfl) ?_
  show ov_R u d ov_m246 0 [(0, ov_r 90), (1, ov_i x), (2, ov_i y), (3, ov_i way), (4, ov_i s)] [] z h (P_Mo_mayAsk_90_t F z h x y way s)
  refine ov_blk (ls2 := [(0, ov_r 90), (1, ov_i x), (2, ov_i y), (3, ov_i way), (4, ov_i s)]) (st2 := [ov_i y, ov_i x, ov_r 90]) (pc2 := 3) b_246_0_3 rfl rfl ?_
  refine ov_cV (as := [ov_i x, ov_i y]) (st := []) (d2 := d - 1) d_246_3 lk_Mo_296 rfl (Nat.le_of_ble_eq_true rfl) (c := 1) (zb_90 I) (zs_90 I) ⟨by decide, rfl⟩ (by omega) (c_Mo_isCorner_90_t (d - 1) (by omega) U I x y (by omega) (by omega)) ?_
  rintro _ _ _ ⟨v2, rfl, rfl, rfl, f1⟩
  show ov_R u d ov_m246 6 [(0, ov_r 90), (1, ov_i x), (2, ov_i y), (3, ov_i way), (4, ov_i s)] [ov_i v2] z h (P_Mo_mayAsk_90_t F z h x y way s)
  have f3 : (v2 = 0 ∨ v2 = 1) ∧ (v2 = 1 → 0 ≤ x ∧ x ≤ 5 ∧ 0 ≤ y ∧ y ≤ 8 ∧ x < (h 96 0) ∧ y < (h 96 1)) ∧ (v2 = 0 → x < 0 ∨ y < 0 ∨ (h 96 0) ≤ x ∨ (h 96 1) ≤ y) := f1
  clear f1
  refine ov_ifeq (tgt := 41) d_246_6 (by decide) (by omega) (fun c4 => ?_) (fun c4 => ?_)
  · skip
    have f3_ : v2 = 0 := by omega
    have f5 : x < 0 ∨ y < 0 ∨ (h 96 0) ≤ x ∨ (h 96 1) ≤ y := f3.2.2 (by omega)
    clear f3
    refine ov_blk (ls2 := [(0, ov_r 90), (1, ov_i x), (2, ov_i y), (3, ov_i way), (4, ov_i s)]) (st2 := [ov_i 0]) (pc2 := 42) b_246_41_1 rfl rfl ?_
    exact ov_retz (st := []) d_246_42 rfl (by omega) ⟨_, rfl, rfl, rfl, (by show (0 = 0 ∨ 0 = 1) ∧ (0 = 1 → 0 ≤ x ∧ x ≤ 5 ∧ 0 ≤ y ∧ y ≤ 8 ∧ 0 ≤ way ∧ way ≤ 1 ∧ ((way = 0 → x < (h 96 0) - 1) ∧ (¬ way = 0 → y < (h 96 1) - 1)) ∧ (((h 96 (10 + 4 * (6 * y + x))) = 1 ∨ (h 96 (10 + 4 * (6 * y + x))) = 2) → (way = 0 → 0 < (h 96 (10 + 4 * (6 * y + x) + 3))) ∧ (¬ way = 0 → (h 96 (10 + 4 * (6 * y + x) + 3)) < (h 96 (10 + 4 * (6 * y + x) + 1)))) ∧ 0 ≤ x ∧ x < (h 96 0) ∧ 0 ≤ y ∧ y < (h 96 1) ∧ 0 ≤ way ∧ way ≤ 1 ∧ 0 ≤ s ∧ s ≤ 1000000 ∧ ov_cgi (h 96) x y way = 1) ∧ (0 = 0 → ¬ (0 ≤ x ∧ x < (h 96 0) ∧ 0 ≤ y ∧ y < (h 96 1) ∧ 0 ≤ way ∧ way ≤ 1 ∧ 0 ≤ s ∧ s ≤ 1000000 ∧ ov_cgi (h 96) x y way = 1)); omega)⟩
  · skip
    have f3_ : v2 = 1 := by omega
    have f6 : 0 ≤ x ∧ x ≤ 5 ∧ 0 ≤ y ∧ y ≤ 8 ∧ x < (h 96 0) ∧ y < (h 96 1) := f3.2.1 (by omega)
    clear f3
    refine ov_blk (ls2 := [(0, ov_r 90), (1, ov_i x), (2, ov_i y), (3, ov_i way), (4, ov_i s)]) (st2 := [ov_i 1, ov_i 0, ov_i way]) (pc2 := 12) b_246_9_3 rfl rfl ?_
    refine ov_cS (as := [ov_i way, ov_i 0, ov_i 1]) (st := []) (d2 := d - 1) d_246_12 lk_Mo_299 rfl (Nat.le_of_ble_eq_true rfl) (by omega) (c_Mo_within (d - 1) (by omega) U I way 0 1 (by omega) (by omega) (by omega)) ?_
    rintro _ _ _ ⟨v8, rfl, rfl, rfl, f7⟩
    show ov_R u d ov_m246 15 [(0, ov_r 90), (1, ov_i x), (2, ov_i y), (3, ov_i way), (4, ov_i s)] [ov_i v8] z h (P_Mo_mayAsk_90_t F z h x y way s)
    have f9 : (v8 = 0 ∨ v8 = 1) ∧ (v8 = 1 → (0 : Int) ≤ way ∧ way ≤ (1 : Int)) ∧ (v8 = 0 → way < (0 : Int) ∨ (1 : Int) < way) := f7
    clear f7
    refine ov_ifeq (tgt := 41) d_246_15 (by decide) (by omega) (fun c10 => ?_) (fun c10 => ?_)
    · skip
      have f9_ : v8 = 0 := by omega
      have f11 : way < (0 : Int) ∨ (1 : Int) < way := f9.2.2 (by omega)
      clear f9
      refine ov_blk (ls2 := [(0, ov_r 90), (1, ov_i x), (2, ov_i y), (3, ov_i way), (4, ov_i s)]) (st2 := [ov_i 0]) (pc2 := 42) b_246_41_1 rfl rfl ?_
      exact ov_retz (st := []) d_246_42 rfl (by omega) ⟨_, rfl, rfl, rfl, (by show (0 = 0 ∨ 0 = 1) ∧ (0 = 1 → 0 ≤ x ∧ x ≤ 5 ∧ 0 ≤ y ∧ y ≤ 8 ∧ 0 ≤ way ∧ way ≤ 1 ∧ ((way = 0 → x < (h 96 0) - 1) ∧ (¬ way = 0 → y < (h 96 1) - 1)) ∧ (((h 96 (10 + 4 * (6 * y + x))) = 1 ∨ (h 96 (10 + 4 * (6 * y + x))) = 2) → (way = 0 → 0 < (h 96 (10 + 4 * (6 * y + x) + 3))) ∧ (¬ way = 0 → (h 96 (10 + 4 * (6 * y + x) + 3)) < (h 96 (10 + 4 * (6 * y + x) + 1)))) ∧ 0 ≤ x ∧ x < (h 96 0) ∧ 0 ≤ y ∧ y < (h 96 1) ∧ 0 ≤ way ∧ way ≤ 1 ∧ 0 ≤ s ∧ s ≤ 1000000 ∧ ov_cgi (h 96) x y way = 1) ∧ (0 = 0 → ¬ (0 ≤ x ∧ x < (h 96 0) ∧ 0 ≤ y ∧ y < (h 96 1) ∧ 0 ≤ way ∧ way ≤ 1 ∧ 0 ≤ s ∧ s ≤ 1000000 ∧ ov_cgi (h 96) x y way = 1)); omega)⟩
    · skip
      have f9_ : v8 = 1 := by omega
      have f12 : (0 : Int) ≤ way ∧ way ≤ (1 : Int) := f9.2.1 (by omega)
      clear f9
      refine ov_blk (ls2 := [(0, ov_r 90), (1, ov_i x), (2, ov_i y), (3, ov_i way), (4, ov_i s)]) (st2 := [ov_i s, ov_r 90]) (pc2 := 21) b_246_18_2 rfl rfl ?_
      refine ov_cV (as := [ov_i s]) (st := []) (d2 := d - 1) d_246_21 lk_Mo_306 rfl (Nat.le_of_ble_eq_true rfl) (c := 1) (zb_90 I) (zs_90 I) ⟨by decide, rfl⟩ (by omega) (c_Mo_isSecond_90_t (d - 1) (by omega) U I s (by omega)) ?_
      rintro _ _ _ ⟨v14, rfl, rfl, rfl, f13⟩
      show ov_R u d ov_m246 24 [(0, ov_r 90), (1, ov_i x), (2, ov_i y), (3, ov_i way), (4, ov_i s)] [ov_i v14] z h (P_Mo_mayAsk_90_t F z h x y way s)
      have f15 : (v14 = 0 ∨ v14 = 1) ∧ (v14 = 1 → 0 ≤ s ∧ s ≤ 1000000) ∧ (v14 = 0 → s < 0 ∨ 1000000 < s) := f13
      clear f13
      refine ov_ifeq (tgt := 41) d_246_24 (by decide) (by omega) (fun c16 => ?_) (fun c16 => ?_)
      · skip
        have f15_ : v14 = 0 := by omega
        have f17 : s < 0 ∨ 1000000 < s := f15.2.2 (by omega)
        clear f15
        refine ov_blk (ls2 := [(0, ov_r 90), (1, ov_i x), (2, ov_i y), (3, ov_i way), (4, ov_i s)]) (st2 := [ov_i 0]) (pc2 := 42) b_246_41_1 rfl rfl ?_
        exact ov_retz (st := []) d_246_42 rfl (by omega) ⟨_, rfl, rfl, rfl, (by show (0 = 0 ∨ 0 = 1) ∧ (0 = 1 → 0 ≤ x ∧ x ≤ 5 ∧ 0 ≤ y ∧ y ≤ 8 ∧ 0 ≤ way ∧ way ≤ 1 ∧ ((way = 0 → x < (h 96 0) - 1) ∧ (¬ way = 0 → y < (h 96 1) - 1)) ∧ (((h 96 (10 + 4 * (6 * y + x))) = 1 ∨ (h 96 (10 + 4 * (6 * y + x))) = 2) → (way = 0 → 0 < (h 96 (10 + 4 * (6 * y + x) + 3))) ∧ (¬ way = 0 → (h 96 (10 + 4 * (6 * y + x) + 3)) < (h 96 (10 + 4 * (6 * y + x) + 1)))) ∧ 0 ≤ x ∧ x < (h 96 0) ∧ 0 ≤ y ∧ y < (h 96 1) ∧ 0 ≤ way ∧ way ≤ 1 ∧ 0 ≤ s ∧ s ≤ 1000000 ∧ ov_cgi (h 96) x y way = 1) ∧ (0 = 0 → ¬ (0 ≤ x ∧ x < (h 96 0) ∧ 0 ≤ y ∧ y < (h 96 1) ∧ 0 ≤ way ∧ way ≤ 1 ∧ 0 ≤ s ∧ s ≤ 1000000 ∧ ov_cgi (h 96) x y way = 1)); omega)⟩
      · skip
        have f15_ : v14 = 1 := by omega
        have f18 : 0 ≤ s ∧ s ≤ 1000000 := f15.2.1 (by omega)
        clear f15
        refine ov_blk (ls2 := [(0, ov_r 90), (1, ov_i x), (2, ov_i y), (3, ov_i way), (4, ov_i s)]) (st2 := [ov_i way, ov_i y, ov_i x, ov_r 90]) (pc2 := 31) b_246_27_4 rfl rfl ?_
        refine ov_cV (as := [ov_i x, ov_i y, ov_i way]) (st := []) (d2 := d - 1) d_246_31 lk_Mo_309 rfl (Nat.le_of_ble_eq_true rfl) (c := 1) (zb_90 I) (zs_90 I) ⟨by decide, rfl⟩ (by omega) (c_Mo_canGo_90 (d - 1) (by omega) U I x y way (by omega) (by omega) (by omega) (by omega) (by omega)) ?_
        rintro _ _ _ ⟨v20, rfl, rfl, rfl, f19⟩
        show ov_R u d ov_m246 34 [(0, ov_r 90), (1, ov_i x), (2, ov_i y), (3, ov_i way), (4, ov_i s)] [ov_i v20] z h (P_Mo_mayAsk_90_t F z h x y way s)
        have f21 : (v20 = 0 ∨ v20 = 1) ∧ v20 = ov_cgi (h 96) x y way ∧ (v20 = 1 → ((way = 0 → x < (h 96 0) - 1) ∧ (¬ way = 0 → y < (h 96 1) - 1)) ∧ (((h 96 (10 + 4 * (6 * y + x))) = 1 ∨ (h 96 (10 + 4 * (6 * y + x))) = 2) → (way = 0 → 0 < (h 96 (10 + 4 * (6 * y + x) + 3))) ∧ (¬ way = 0 → (h 96 (10 + 4 * (6 * y + x) + 3)) < (h 96 (10 + 4 * (6 * y + x) + 1))))) := f19
        clear f19
        refine ov_ifeq (tgt := 41) d_246_34 (by decide) (by omega) (fun c22 => ?_) (fun c22 => ?_)
        · skip
          have f21_ : v20 = 0 := by omega
          have f23 : v20 = ov_cgi (h 96) x y way := f21.2.1
          clear f21
          refine ov_blk (ls2 := [(0, ov_r 90), (1, ov_i x), (2, ov_i y), (3, ov_i way), (4, ov_i s)]) (st2 := [ov_i 0]) (pc2 := 42) b_246_41_1 rfl rfl ?_
          exact ov_retz (st := []) d_246_42 rfl (by omega) ⟨_, rfl, rfl, rfl, (by show (0 = 0 ∨ 0 = 1) ∧ (0 = 1 → 0 ≤ x ∧ x ≤ 5 ∧ 0 ≤ y ∧ y ≤ 8 ∧ 0 ≤ way ∧ way ≤ 1 ∧ ((way = 0 → x < (h 96 0) - 1) ∧ (¬ way = 0 → y < (h 96 1) - 1)) ∧ (((h 96 (10 + 4 * (6 * y + x))) = 1 ∨ (h 96 (10 + 4 * (6 * y + x))) = 2) → (way = 0 → 0 < (h 96 (10 + 4 * (6 * y + x) + 3))) ∧ (¬ way = 0 → (h 96 (10 + 4 * (6 * y + x) + 3)) < (h 96 (10 + 4 * (6 * y + x) + 1)))) ∧ 0 ≤ x ∧ x < (h 96 0) ∧ 0 ≤ y ∧ y < (h 96 1) ∧ 0 ≤ way ∧ way ≤ 1 ∧ 0 ≤ s ∧ s ≤ 1000000 ∧ ov_cgi (h 96) x y way = 1) ∧ (0 = 0 → ¬ (0 ≤ x ∧ x < (h 96 0) ∧ 0 ≤ y ∧ y < (h 96 1) ∧ 0 ≤ way ∧ way ≤ 1 ∧ 0 ≤ s ∧ s ≤ 1000000 ∧ ov_cgi (h 96) x y way = 1)); omega)⟩
        · skip
          have f21_ : v20 = 1 := by omega
          have f24 : v20 = ov_cgi (h 96) x y way := f21.2.1
          have f25 : ((way = 0 → x < (h 96 0) - 1) ∧ (¬ way = 0 → y < (h 96 1) - 1)) ∧ (((h 96 (10 + 4 * (6 * y + x))) = 1 ∨ (h 96 (10 + 4 * (6 * y + x))) = 2) → (way = 0 → 0 < (h 96 (10 + 4 * (6 * y + x) + 3))) ∧ (¬ way = 0 → (h 96 (10 + 4 * (6 * y + x) + 3)) < (h 96 (10 + 4 * (6 * y + x) + 1)))) := f21.2.2 (by omega)
          clear f21
          refine ov_blk (ls2 := [(0, ov_r 90), (1, ov_i x), (2, ov_i y), (3, ov_i way), (4, ov_i s)]) (st2 := [ov_i 1]) (pc2 := 38) b_246_37_1 rfl rfl ?_
          refine ov_goto (tgt := 42) d_246_38 (by decide) ?_
          exact ov_retz (st := []) d_246_42 rfl (by omega) ⟨_, rfl, rfl, rfl, (by show (1 = 0 ∨ 1 = 1) ∧ (1 = 1 → 0 ≤ x ∧ x ≤ 5 ∧ 0 ≤ y ∧ y ≤ 8 ∧ 0 ≤ way ∧ way ≤ 1 ∧ ((way = 0 → x < (h 96 0) - 1) ∧ (¬ way = 0 → y < (h 96 1) - 1)) ∧ (((h 96 (10 + 4 * (6 * y + x))) = 1 ∨ (h 96 (10 + 4 * (6 * y + x))) = 2) → (way = 0 → 0 < (h 96 (10 + 4 * (6 * y + x) + 3))) ∧ (¬ way = 0 → (h 96 (10 + 4 * (6 * y + x) + 3)) < (h 96 (10 + 4 * (6 * y + x) + 1)))) ∧ 0 ≤ x ∧ x < (h 96 0) ∧ 0 ≤ y ∧ y < (h 96 1) ∧ 0 ≤ way ∧ way ≤ 1 ∧ 0 ≤ s ∧ s ≤ 1000000 ∧ ov_cgi (h 96) x y way = 1) ∧ (1 = 0 → ¬ (0 ≤ x ∧ x < (h 96 0) ∧ 0 ≤ y ∧ y < (h 96 1) ∧ 0 ≤ way ∧ way ≤ 1 ∧ 0 ≤ s ∧ s ≤ 1000000 ∧ ov_cgi (h 96) x y way = 1)); omega)⟩
abbrev P_Mo_green_90_t (F : ov_H × ov_Z) (z : ov_Z) (h : ov_H) (x : Int) (y : Int) (way : Int) (s : Int) : Option ov_V → ov_Z → ov_H → Prop := fun r0 z' h' => ∃ r : Int, r0 = some (ov_i r) ∧ ov_N F z' h' ∧ ((h' 90 2) = (h 90 2) ∧ (h' 90 7) = (h 90 7) ∧ (h' 90 8) = (h 90 8) ∧ (h' 90 13) = (h 90 13) ∧ (h' 90 20) = (h 90 20) ∧ (h' 90 22) = (h 90 22) ∧ (h' 90 25) = (h 90 25) ∧ (h' 90 26) = (h 90 26) ∧ (h' 90 28) = (h 90 28) ∧ (h' 90 29) = (h 90 29) ∧ (h' 90 30) = (h 90 30) ∧ (h' 90 34) = (h 90 34) ∧ -2147483648 ≤ r ∧ r ≤ 2147483647 ∧ r = ov_grm (h 96) x y way s) ∧ h' 91 = h 91 ∧ h' 92 = h 92 ∧ h' 93 = h 93 ∧ h' 94 = h 94 ∧ h' 95 = h 95 ∧ h' 96 = h 96 ∧ h' 97 = h 97 ∧ h' 98 = h 98 ∧ h' 99 = h 99 ∧ h' 100 = h 100 ∧ h' 103 = h 103 ∧ h' 104 = h 104 ∧ h' 105 = h 105 ∧ h' 106 = h 106 ∧ h' 109 = h 109 ∧ h' 114 = h 114
set_option maxHeartbeats 4000000 in
theorem c_Mo_green_90_t {u : ov_U} {F : ov_H × ov_Z} {z : ov_Z} {h : ov_H} (d : Nat) (hd : 4 ≤ d) (U : ov_cap u) (I : ov_N F z h) (x : Int) (y : Int) (way : Int) (s : Int) (g_x : ov_g x) (g_y : ov_g y) (g_way : ov_g way) (g_s : ov_g s) (W : ov_WT (h 96)) : ov_T u d ov_m245 [ov_r 90, ov_i x, ov_i y, ov_i way, ov_i s] z h (P_Mo_green_90_t F z h x y way s) := by
  refine ov_en rfl (Nat.le_of_ble_eq_true rfl) ?_
  show ov_R u d ov_m245 0 [(0, ov_r 90), (1, ov_i x), (2, ov_i y), (3, ov_i way), (4, ov_i s)] [] z h (P_Mo_green_90_t F z h x y way s)
  refine ov_blk (ls2 := [(0, ov_r 90), (1, ov_i x), (2, ov_i y), (3, ov_i way), (4, ov_i s)]) (st2 := [ov_i 0, ov_r 90]) (pc2 := 2) b_245_0_2 rfl rfl ?_
  refine ov_putf (x := 0) d_245_2 fl_Mo_1 (zb_90 I) (zs_90 I) rfl nk_0 rfl ?_
  have I1 := up_90_0 (x := 0) I (by omega)
  refine ov_blk (ls2 := [(0, ov_r 90), (1, ov_i x), (2, ov_i y), (3, ov_i way), (4, ov_i s)]) (st2 := [ov_i s, ov_i way, ov_i y, ov_i x, ov_r 90]) (pc2 := 11) b_245_5_5 rfl rfl ?_
  refine ov_cV (as := [ov_i x, ov_i y, ov_i way, ov_i s]) (st := []) (d2 := d - 1) d_245_11 lk_Mo_312 rfl (Nat.le_of_ble_eq_true rfl) (c := 1) (zb_90 I1) (zs_90 I1) ⟨by decide, rfl⟩ (by omega) (c_Mo_mayAsk_90_t (d - 1) (by omega) U I1 x y way s (by omega) (by omega) (by omega) (by omega)) ?_
  rintro _ _ _ ⟨v3, rfl, rfl, rfl, f2⟩
  show ov_R u d ov_m245 14 [(0, ov_r 90), (1, ov_i x), (2, ov_i y), (3, ov_i way), (4, ov_i s)] [ov_i v3] z (ov_up h 90 0 0) (P_Mo_green_90_t F z h x y way s)
  have f4 : (v3 = 0 ∨ v3 = 1) ∧ (v3 = 1 → 0 ≤ x ∧ x ≤ 5 ∧ 0 ≤ y ∧ y ≤ 8 ∧ 0 ≤ way ∧ way ≤ 1 ∧ ((way = 0 → x < (h 96 0) - 1) ∧ (¬ way = 0 → y < (h 96 1) - 1)) ∧ (((h 96 (10 + 4 * (6 * y + x))) = 1 ∨ (h 96 (10 + 4 * (6 * y + x))) = 2) → (way = 0 → 0 < (h 96 (10 + 4 * (6 * y + x) + 3))) ∧ (¬ way = 0 → (h 96 (10 + 4 * (6 * y + x) + 3)) < (h 96 (10 + 4 * (6 * y + x) + 1)))) ∧ 0 ≤ x ∧ x < (h 96 0) ∧ 0 ≤ y ∧ y < (h 96 1) ∧ 0 ≤ way ∧ way ≤ 1 ∧ 0 ≤ s ∧ s ≤ 1000000 ∧ ov_cgi (h 96) x y way = 1) ∧ (v3 = 0 → ¬ (0 ≤ x ∧ x < (h 96 0) ∧ 0 ≤ y ∧ y < (h 96 1) ∧ 0 ≤ way ∧ way ≤ 1 ∧ 0 ≤ s ∧ s ≤ 1000000 ∧ ov_cgi (h 96) x y way = 1)) := f2
  clear f2
  refine ov_ifne (tgt := 19) d_245_14 (by decide) (by omega) (fun c5 => ?_) (fun c5 => ?_)
  · skip
    have f4_ : v3 = 1 := by omega
    have f6 : 0 ≤ x ∧ x ≤ 5 ∧ 0 ≤ y ∧ y ≤ 8 ∧ 0 ≤ way ∧ way ≤ 1 ∧ ((way = 0 → x < (h 96 0) - 1) ∧ (¬ way = 0 → y < (h 96 1) - 1)) ∧ (((h 96 (10 + 4 * (6 * y + x))) = 1 ∨ (h 96 (10 + 4 * (6 * y + x))) = 2) → (way = 0 → 0 < (h 96 (10 + 4 * (6 * y + x) + 3))) ∧ (¬ way = 0 → (h 96 (10 + 4 * (6 * y + x) + 3)) < (h 96 (10 + 4 * (6 * y + x) + 1)))) ∧ 0 ≤ x ∧ x < (h 96 0) ∧ 0 ≤ y ∧ y < (h 96 1) ∧ 0 ≤ way ∧ way ≤ 1 ∧ 0 ≤ s ∧ s ≤ 1000000 ∧ ov_cgi (h 96) x y way = 1 := f4.2.1 (by omega)
    clear f4
    refine ov_blk (ls2 := [(0, ov_r 90), (1, ov_i x), (2, ov_i y), (3, ov_i way), (4, ov_i s)]) (st2 := [ov_i y, ov_i x, ov_r 90]) (pc2 := 22) b_245_19_3 rfl rfl ?_
    refine ov_cV (as := [ov_i x, ov_i y]) (st := []) (d2 := d - 1) d_245_22 lk_Mo_282 rfl (Nat.le_of_ble_eq_true rfl) (c := 1) (zb_90 I1) (zs_90 I1) ⟨by decide, rfl⟩ (by omega) (c_Mo_kindAt_90 (d - 1) (by omega) U I1 x y (by omega) (by omega) (by omega)) ?_
    rintro _ _ _ ⟨v8, rfl, rfl, rfl, f7⟩
    show ov_R u d ov_m245 25 [(0, ov_r 90), (1, ov_i x), (2, ov_i y), (3, ov_i way), (4, ov_i s)] [ov_i v8] z (ov_up h 90 0 0) (P_Mo_green_90_t F z h x y way s)
    have f9 : v8 = (h 96 (10 + 4 * (6 * y + x))) - 1 ∧ -1 ≤ v8 ∧ v8 ≤ 3 := f7
    clear f7
    refine ov_blk (ls2 := [(0, ov_r 90), (1, ov_i x), (2, ov_i y), (3, ov_i way), (4, ov_i s)]) (st2 := [ov_i 2, ov_i v8]) (pc2 := 26) b_245_25_1 rfl rfl ?_
    refine ov_icne (tgt := 42) d_245_26 (by decide) (by omega) (by omega) (fun c10 => ?_) (fun c10 => ?_)
    · skip
      refine ov_blk (ls2 := [(0, ov_r 90), (1, ov_i x), (2, ov_i y), (3, ov_i way), (4, ov_i s)]) (st2 := [ov_i y, ov_i x, ov_r 90]) (pc2 := 45) b_245_42_3 rfl rfl ?_
      refine ov_cV (as := [ov_i x, ov_i y]) (st := []) (d2 := d - 1) d_245_45 lk_Mo_285 rfl (Nat.le_of_ble_eq_true rfl) (c := 1) (zb_90 I1) (zs_90 I1) ⟨by decide, rfl⟩ (by omega) (c_Mo_isTimed_90 (d - 1) (by omega) U I1 x y (by omega) (by omega) (by omega)) ?_
      rintro _ _ _ ⟨v12, rfl, rfl, rfl, f11⟩
      show ov_R u d ov_m245 48 [(0, ov_r 90), (1, ov_i x), (2, ov_i y), (3, ov_i way), (4, ov_i s)] [ov_i v12] z (ov_up h 90 0 0) (P_Mo_green_90_t F z h x y way s)
      have f13 : (v12 = 0 ∨ v12 = 1) ∧ (v12 = 1 → ((h 96 (10 + 4 * (6 * y + x))) = 1 ∨ (h 96 (10 + 4 * (6 * y + x))) = 2)) ∧ (v12 = 0 → ¬ ((h 96 (10 + 4 * (6 * y + x))) = 1 ∨ (h 96 (10 + 4 * (6 * y + x))) = 2)) := f11
      clear f11
      refine ov_ifeq (tgt := 63) d_245_48 (by decide) (by omega) (fun c14 => ?_) (fun c14 => ?_)
      · skip
        have f13_ : v12 = 0 := by omega
        have f15 : ¬ ((h 96 (10 + 4 * (6 * y + x))) = 1 ∨ (h 96 (10 + 4 * (6 * y + x))) = 2) := f13.2.2 (by omega)
        clear f13
        refine ov_blk (ls2 := [(0, ov_r 90), (1, ov_i x), (2, ov_i y), (3, ov_i way), (4, ov_i s)]) (st2 := [ov_i 1]) (pc2 := 64) b_245_63_1 rfl rfl ?_
        refine ov_goto (tgt := 68) d_245_64 (by decide) ?_
        refine ov_blk (ls2 := [(0, ov_r 90), (1, ov_i x), (2, ov_i y), (3, ov_i way), (4, ov_i s), (5, ov_i 1)]) (st2 := [ov_i 1]) (pc2 := 72) b_245_68_2 rfl rfl ?_
        refine ov_ifeq (tgt := 79) d_245_72 (by decide) (by omega) (fun c16 => ?_) (fun c16 => ?_)
        · omega
        · skip
          refine ov_blk (ls2 := [(0, ov_r 90), (1, ov_i x), (2, ov_i y), (3, ov_i way), (4, ov_i s), (5, ov_i 1)]) (st2 := [ov_i 1]) (pc2 := 76) b_245_75_1 rfl rfl ?_
          refine ov_goto (tgt := 80) d_245_76 (by decide) ?_
          have gz : ov_grm (h 96) x y way s = 1 := by unfold ov_grm; rw [ov_ite_t (show ov_mayf (h 96) x y way s by unfold ov_mayf; omega)]; (try unfold ov_gri); (repeat' split) <;> omega
          exact ov_reti (st := []) d_245_80 rfl ⟨_, rfl, I1, ⟨rfl, rfl, rfl, rfl, rfl, rfl, rfl, rfl, rfl, rfl, rfl, rfl, (by show -2147483648 ≤ 1 ∧ 1 ≤ 2147483647 ∧ 1 = ov_grm (h 96) x y way s; omega)⟩, rfl, rfl, rfl, rfl, rfl, rfl, rfl, rfl, rfl, rfl, rfl, rfl, rfl, rfl, rfl, rfl⟩
      · skip
        have f13_ : v12 = 1 := by omega
        have f17 : ((h 96 (10 + 4 * (6 * y + x))) = 1 ∨ (h 96 (10 + 4 * (6 * y + x))) = 2) := f13.2.1 (by omega)
        clear f13
        refine ov_blk (ls2 := [(0, ov_r 90), (1, ov_i x), (2, ov_i y), (3, ov_i way), (4, ov_i s)]) (st2 := [ov_i s, ov_i way, ov_i y, ov_i x, ov_r 90]) (pc2 := 57) b_245_51_5 rfl rfl ?_
        have w1 := ov_WT_at W (c := 6 * y + x) (by omega)
        refine ov_cV (as := [ov_i x, ov_i y, ov_i way, ov_i s]) (st := []) (d2 := d - 1) d_245_57 lk_Mo_292 rfl (Nat.le_of_ble_eq_true rfl) (c := 1) (zb_90 I1) (zs_90 I1) ⟨by decide, rfl⟩ (by omega) (c_Mo_isGreen_90 (d - 1) (by omega) U I1 x y way s (by omega) (by omega) (by omega) (by omega) (by omega) (by show 1 ≤ (h 96 (10 + 4 * (6 * y + x) + 1)); omega) (by omega)) ?_
        rintro _ _ _ ⟨v19, rfl, rfl, rfl, f18⟩
        show ov_R u d ov_m245 60 [(0, ov_r 90), (1, ov_i x), (2, ov_i y), (3, ov_i way), (4, ov_i s)] [ov_i v19] z (ov_up h 90 0 0) (P_Mo_green_90_t F z h x y way s)
        have f20 : (v19 = 0 ∨ v19 = 1) ∧ (v19 = 1 → (ov_ph s ((h 96 (10 + 4 * (6 * y + x) + 2))) ((h 96 (10 + 4 * (6 * y + x) + 1))) < (h 96 (10 + 4 * (6 * y + x) + 3)) ∧ way = 0) ∨ (¬ ov_ph s ((h 96 (10 + 4 * (6 * y + x) + 2))) ((h 96 (10 + 4 * (6 * y + x) + 1))) < (h 96 (10 + 4 * (6 * y + x) + 3)) ∧ ¬ way = 0)) ∧ (v19 = 0 → (ov_ph s ((h 96 (10 + 4 * (6 * y + x) + 2))) ((h 96 (10 + 4 * (6 * y + x) + 1))) < (h 96 (10 + 4 * (6 * y + x) + 3)) ∧ ¬ way = 0) ∨ (¬ ov_ph s ((h 96 (10 + 4 * (6 * y + x) + 2))) ((h 96 (10 + 4 * (6 * y + x) + 1))) < (h 96 (10 + 4 * (6 * y + x) + 3)) ∧ way = 0)) := f18
        clear f18
        refine ov_ifeq (tgt := 67) d_245_60 (by decide) (by omega) (fun c21 => ?_) (fun c21 => ?_)
        · skip
          have f20_ : v19 = 0 := by omega
          have f22 : (ov_ph s ((h 96 (10 + 4 * (6 * y + x) + 2))) ((h 96 (10 + 4 * (6 * y + x) + 1))) < (h 96 (10 + 4 * (6 * y + x) + 3)) ∧ ¬ way = 0) ∨ (¬ ov_ph s ((h 96 (10 + 4 * (6 * y + x) + 2))) ((h 96 (10 + 4 * (6 * y + x) + 1))) < (h 96 (10 + 4 * (6 * y + x) + 3)) ∧ way = 0) := f20.2.2 (by omega)
          clear f20
          refine ov_blk (ls2 := [(0, ov_r 90), (1, ov_i x), (2, ov_i y), (3, ov_i way), (4, ov_i s), (5, ov_i 0)]) (st2 := [ov_i 0]) (pc2 := 72) b_245_67_3 rfl rfl ?_
          refine ov_ifeq (tgt := 79) d_245_72 (by decide) (by omega) (fun c23 => ?_) (fun c23 => ?_)
          · skip
            refine ov_blk (ls2 := [(0, ov_r 90), (1, ov_i x), (2, ov_i y), (3, ov_i way), (4, ov_i s), (5, ov_i 0)]) (st2 := [ov_i 0]) (pc2 := 80) b_245_79_1 rfl rfl ?_
            have gz : ov_grm (h 96) x y way s = 0 := by unfold ov_grm; rw [ov_ite_t (show ov_mayf (h 96) x y way s by unfold ov_mayf; omega)]; (try unfold ov_gri); (repeat' split) <;> omega
            exact ov_reti (st := []) d_245_80 rfl ⟨_, rfl, I1, ⟨rfl, rfl, rfl, rfl, rfl, rfl, rfl, rfl, rfl, rfl, rfl, rfl, (by show -2147483648 ≤ 0 ∧ 0 ≤ 2147483647 ∧ 0 = ov_grm (h 96) x y way s; omega)⟩, rfl, rfl, rfl, rfl, rfl, rfl, rfl, rfl, rfl, rfl, rfl, rfl, rfl, rfl, rfl, rfl⟩
          · omega
        · skip
          have f20_ : v19 = 1 := by omega
          have f24 : (ov_ph s ((h 96 (10 + 4 * (6 * y + x) + 2))) ((h 96 (10 + 4 * (6 * y + x) + 1))) < (h 96 (10 + 4 * (6 * y + x) + 3)) ∧ way = 0) ∨ (¬ ov_ph s ((h 96 (10 + 4 * (6 * y + x) + 2))) ((h 96 (10 + 4 * (6 * y + x) + 1))) < (h 96 (10 + 4 * (6 * y + x) + 3)) ∧ ¬ way = 0) := f20.2.1 (by omega)
          clear f20
          refine ov_blk (ls2 := [(0, ov_r 90), (1, ov_i x), (2, ov_i y), (3, ov_i way), (4, ov_i s)]) (st2 := [ov_i 1]) (pc2 := 64) b_245_63_1 rfl rfl ?_
          refine ov_goto (tgt := 68) d_245_64 (by decide) ?_
          refine ov_blk (ls2 := [(0, ov_r 90), (1, ov_i x), (2, ov_i y), (3, ov_i way), (4, ov_i s), (5, ov_i 1)]) (st2 := [ov_i 1]) (pc2 := 72) b_245_68_2 rfl rfl ?_
          refine ov_ifeq (tgt := 79) d_245_72 (by decide) (by omega) (fun c25 => ?_) (fun c25 => ?_)
          · omega
          · skip
            refine ov_blk (ls2 := [(0, ov_r 90), (1, ov_i x), (2, ov_i y), (3, ov_i way), (4, ov_i s), (5, ov_i 1)]) (st2 := [ov_i 1]) (pc2 := 76) b_245_75_1 rfl rfl ?_
            refine ov_goto (tgt := 80) d_245_76 (by decide) ?_
            have gz : ov_grm (h 96) x y way s = 1 := by unfold ov_grm; rw [ov_ite_t (show ov_mayf (h 96) x y way s by unfold ov_mayf; omega)]; (try unfold ov_gri); (repeat' split) <;> omega
            exact ov_reti (st := []) d_245_80 rfl ⟨_, rfl, I1, ⟨rfl, rfl, rfl, rfl, rfl, rfl, rfl, rfl, rfl, rfl, rfl, rfl, (by show -2147483648 ≤ 1 ∧ 1 ≤ 2147483647 ∧ 1 = ov_grm (h 96) x y way s; omega)⟩, rfl, rfl, rfl, rfl, rfl, rfl, rfl, rfl, rfl, rfl, rfl, rfl, rfl, rfl, rfl, rfl⟩
    · skip
      refine ov_blk (ls2 := [(0, ov_r 90), (1, ov_i x), (2, ov_i y), (3, ov_i way), (4, ov_i s)]) (st2 := [ov_i 1, ov_i way]) (pc2 := 31) b_245_29_2 rfl rfl ?_
      refine ov_icne (tgt := 38) d_245_31 (by decide) (by omega) (by omega) (fun c26 => ?_) (fun c26 => ?_)
      · skip
        refine ov_blk (ls2 := [(0, ov_r 90), (1, ov_i x), (2, ov_i y), (3, ov_i way), (4, ov_i s)]) (st2 := [ov_i 0]) (pc2 := 39) b_245_38_1 rfl rfl ?_
        refine ov_goto (tgt := 68) d_245_39 (by decide) ?_
        refine ov_blk (ls2 := [(0, ov_r 90), (1, ov_i x), (2, ov_i y), (3, ov_i way), (4, ov_i s), (5, ov_i 0)]) (st2 := [ov_i 0]) (pc2 := 72) b_245_68_2 rfl rfl ?_
        refine ov_ifeq (tgt := 79) d_245_72 (by decide) (by omega) (fun c27 => ?_) (fun c27 => ?_)
        · skip
          refine ov_blk (ls2 := [(0, ov_r 90), (1, ov_i x), (2, ov_i y), (3, ov_i way), (4, ov_i s), (5, ov_i 0)]) (st2 := [ov_i 0]) (pc2 := 80) b_245_79_1 rfl rfl ?_
          have gz : ov_grm (h 96) x y way s = 0 := by unfold ov_grm; rw [ov_ite_t (show ov_mayf (h 96) x y way s by unfold ov_mayf; omega)]; (try unfold ov_gri); (repeat' split) <;> omega
          exact ov_reti (st := []) d_245_80 rfl ⟨_, rfl, I1, ⟨rfl, rfl, rfl, rfl, rfl, rfl, rfl, rfl, rfl, rfl, rfl, rfl, (by show -2147483648 ≤ 0 ∧ 0 ≤ 2147483647 ∧ 0 = ov_grm (h 96) x y way s; omega)⟩, rfl, rfl, rfl, rfl, rfl, rfl, rfl, rfl, rfl, rfl, rfl, rfl, rfl, rfl, rfl, rfl⟩
        · omega
      · skip
        refine ov_blk (ls2 := [(0, ov_r 90), (1, ov_i x), (2, ov_i y), (3, ov_i way), (4, ov_i s)]) (st2 := [ov_i 1]) (pc2 := 35) b_245_34_1 rfl rfl ?_
        refine ov_goto (tgt := 68) d_245_35 (by decide) ?_
        refine ov_blk (ls2 := [(0, ov_r 90), (1, ov_i x), (2, ov_i y), (3, ov_i way), (4, ov_i s), (5, ov_i 1)]) (st2 := [ov_i 1]) (pc2 := 72) b_245_68_2 rfl rfl ?_
        refine ov_ifeq (tgt := 79) d_245_72 (by decide) (by omega) (fun c28 => ?_) (fun c28 => ?_)
        · omega
        · skip
          refine ov_blk (ls2 := [(0, ov_r 90), (1, ov_i x), (2, ov_i y), (3, ov_i way), (4, ov_i s), (5, ov_i 1)]) (st2 := [ov_i 1]) (pc2 := 76) b_245_75_1 rfl rfl ?_
          refine ov_goto (tgt := 80) d_245_76 (by decide) ?_
          have gz : ov_grm (h 96) x y way s = 1 := by unfold ov_grm; rw [ov_ite_t (show ov_mayf (h 96) x y way s by unfold ov_mayf; omega)]; (try unfold ov_gri); (repeat' split) <;> omega
          exact ov_reti (st := []) d_245_80 rfl ⟨_, rfl, I1, ⟨rfl, rfl, rfl, rfl, rfl, rfl, rfl, rfl, rfl, rfl, rfl, rfl, (by show -2147483648 ≤ 1 ∧ 1 ≤ 2147483647 ∧ 1 = ov_grm (h 96) x y way s; omega)⟩, rfl, rfl, rfl, rfl, rfl, rfl, rfl, rfl, rfl, rfl, rfl, rfl, rfl, rfl, rfl, rfl⟩
  · skip
    have f4_ : v3 = 0 := by omega
    have f29 : ¬ (0 ≤ x ∧ x < (h 96 0) ∧ 0 ≤ y ∧ y < (h 96 1) ∧ 0 ≤ way ∧ way ≤ 1 ∧ 0 ≤ s ∧ s ≤ 1000000 ∧ ov_cgi (h 96) x y way = 1) := f4.2.2 (by omega)
    clear f4
    refine ov_blk (ls2 := [(0, ov_r 90), (1, ov_i x), (2, ov_i y), (3, ov_i way), (4, ov_i s)]) (st2 := [ov_i (-1)]) (pc2 := 18) b_245_17_1 rfl rfl ?_
    have gz : ov_grm (h 96) x y way s = -1 := by unfold ov_grm; rw [ov_ite_f (fun q : ov_mayf (h 96) x y way s => by unfold ov_mayf at q; omega)]
    exact ov_reti (st := []) d_245_18 rfl ⟨_, rfl, I1, ⟨rfl, rfl, rfl, rfl, rfl, rfl, rfl, rfl, rfl, rfl, rfl, rfl, (by show -2147483648 ≤ (-1) ∧ (-1) ≤ 2147483647 ∧ (-1) = ov_grm (h 96) x y way s; omega)⟩, rfl, rfl, rfl, rfl, rfl, rfl, rfl, rfl, rfl, rfl, rfl, rfl, rfl, rfl, rfl, rfl⟩
abbrev P_Mo_until_90_t (F : ov_H × ov_Z) (z : ov_Z) (h : ov_H) (x : Int) (y : Int) (way : Int) (s : Int) : Option ov_V → ov_Z → ov_H → Prop := fun r0 z' h' => ∃ r : Int, r0 = some (ov_i r) ∧ ov_N F z' h' ∧ ((h' 90 2) = (h 90 2) ∧ (h' 90 7) = (h 90 7) ∧ (h' 90 8) = (h 90 8) ∧ (h' 90 13) = (h 90 13) ∧ (h' 90 20) = (h 90 20) ∧ (h' 90 22) = (h 90 22) ∧ (h' 90 25) = (h 90 25) ∧ (h' 90 26) = (h 90 26) ∧ (h' 90 28) = (h 90 28) ∧ (h' 90 29) = (h 90 29) ∧ (h' 90 30) = (h 90 30) ∧ (h' 90 34) = (h 90 34) ∧ -2147483648 ≤ r ∧ r ≤ 2147483647 ∧ r = ov_unm (h 96) x y way s) ∧ h' 91 = h 91 ∧ h' 92 = h 92 ∧ h' 93 = h 93 ∧ h' 94 = h 94 ∧ h' 95 = h 95 ∧ h' 96 = h 96 ∧ h' 97 = h 97 ∧ h' 98 = h 98 ∧ h' 99 = h 99 ∧ h' 100 = h 100 ∧ h' 103 = h 103 ∧ h' 104 = h 104 ∧ h' 105 = h 105 ∧ h' 106 = h 106 ∧ h' 109 = h 109 ∧ h' 114 = h 114
set_option maxHeartbeats 4000000 in
theorem c_Mo_until_90_t {u : ov_U} {F : ov_H × ov_Z} {z : ov_Z} {h : ov_H} (d : Nat) (hd : 4 ≤ d) (U : ov_cap u) (I : ov_N F z h) (x : Int) (y : Int) (way : Int) (s : Int) (g_x : ov_g x) (g_y : ov_g y) (g_way : ov_g way) (g_s : ov_g s) (W : ov_WT (h 96)) : ov_T u d ov_m251 [ov_r 90, ov_i x, ov_i y, ov_i way, ov_i s] z h (P_Mo_until_90_t F z h x y way s) := by
  refine ov_en rfl (Nat.le_of_ble_eq_true rfl) ?_
  show ov_R u d ov_m251 0 [(0, ov_r 90), (1, ov_i x), (2, ov_i y), (3, ov_i way), (4, ov_i s)] [] z h (P_Mo_until_90_t F z h x y way s)
  refine ov_blk (ls2 := [(0, ov_r 90), (1, ov_i x), (2, ov_i y), (3, ov_i way), (4, ov_i s)]) (st2 := [ov_i 0, ov_r 90]) (pc2 := 2) b_251_0_2 rfl rfl ?_
  refine ov_putf (x := 0) d_251_2 fl_Mo_1 (zb_90 I) (zs_90 I) rfl nk_0 rfl ?_
  have I1 := up_90_0 (x := 0) I (by omega)
  refine ov_blk (ls2 := [(0, ov_r 90), (1, ov_i x), (2, ov_i y), (3, ov_i way), (4, ov_i s)]) (st2 := [ov_i s, ov_i way, ov_i y, ov_i x, ov_r 90]) (pc2 := 11) b_251_5_5 rfl rfl ?_
  refine ov_cV (as := [ov_i x, ov_i y, ov_i way, ov_i s]) (st := []) (d2 := d - 1) d_251_11 lk_Mo_312 rfl (Nat.le_of_ble_eq_true rfl) (c := 1) (zb_90 I1) (zs_90 I1) ⟨by decide, rfl⟩ (by omega) (c_Mo_mayAsk_90_t (d - 1) (by omega) U I1 x y way s (by omega) (by omega) (by omega) (by omega)) ?_
  rintro _ _ _ ⟨v3, rfl, rfl, rfl, f2⟩
  show ov_R u d ov_m251 14 [(0, ov_r 90), (1, ov_i x), (2, ov_i y), (3, ov_i way), (4, ov_i s)] [ov_i v3] z (ov_up h 90 0 0) (P_Mo_until_90_t F z h x y way s)
  have f4 : (v3 = 0 ∨ v3 = 1) ∧ (v3 = 1 → 0 ≤ x ∧ x ≤ 5 ∧ 0 ≤ y ∧ y ≤ 8 ∧ 0 ≤ way ∧ way ≤ 1 ∧ ((way = 0 → x < (h 96 0) - 1) ∧ (¬ way = 0 → y < (h 96 1) - 1)) ∧ (((h 96 (10 + 4 * (6 * y + x))) = 1 ∨ (h 96 (10 + 4 * (6 * y + x))) = 2) → (way = 0 → 0 < (h 96 (10 + 4 * (6 * y + x) + 3))) ∧ (¬ way = 0 → (h 96 (10 + 4 * (6 * y + x) + 3)) < (h 96 (10 + 4 * (6 * y + x) + 1)))) ∧ 0 ≤ x ∧ x < (h 96 0) ∧ 0 ≤ y ∧ y < (h 96 1) ∧ 0 ≤ way ∧ way ≤ 1 ∧ 0 ≤ s ∧ s ≤ 1000000 ∧ ov_cgi (h 96) x y way = 1) ∧ (v3 = 0 → ¬ (0 ≤ x ∧ x < (h 96 0) ∧ 0 ≤ y ∧ y < (h 96 1) ∧ 0 ≤ way ∧ way ≤ 1 ∧ 0 ≤ s ∧ s ≤ 1000000 ∧ ov_cgi (h 96) x y way = 1)) := f2
  clear f2
  refine ov_ifeq (tgt := 29) d_251_14 (by decide) (by omega) (fun c5 => ?_) (fun c5 => ?_)
  · skip
    have f4_ : v3 = 0 := by omega
    have f6 : ¬ (0 ≤ x ∧ x < (h 96 0) ∧ 0 ≤ y ∧ y < (h 96 1) ∧ 0 ≤ way ∧ way ≤ 1 ∧ 0 ≤ s ∧ s ≤ 1000000 ∧ ov_cgi (h 96) x y way = 1) := f4.2.2 (by omega)
    clear f4
    refine ov_blk (ls2 := [(0, ov_r 90), (1, ov_i x), (2, ov_i y), (3, ov_i way), (4, ov_i s)]) (st2 := [ov_i (-1)]) (pc2 := 30) b_251_29_1 rfl rfl ?_
    have gz : ov_unm (h 96) x y way s = -1 := by unfold ov_unm; rw [ov_ite_f (fun q : ov_mayf (h 96) x y way s => by unfold ov_mayf at q; omega)]
    exact ov_reti (st := []) d_251_30 rfl ⟨_, rfl, I1, ⟨rfl, rfl, rfl, rfl, rfl, rfl, rfl, rfl, rfl, rfl, rfl, rfl, (by show -2147483648 ≤ (-1) ∧ (-1) ≤ 2147483647 ∧ (-1) = ov_unm (h 96) x y way s; omega)⟩, rfl, rfl, rfl, rfl, rfl, rfl, rfl, rfl, rfl, rfl, rfl, rfl, rfl, rfl, rfl, rfl⟩
  · skip
    have f4_ : v3 = 1 := by omega
    have f7 : 0 ≤ x ∧ x ≤ 5 ∧ 0 ≤ y ∧ y ≤ 8 ∧ 0 ≤ way ∧ way ≤ 1 ∧ ((way = 0 → x < (h 96 0) - 1) ∧ (¬ way = 0 → y < (h 96 1) - 1)) ∧ (((h 96 (10 + 4 * (6 * y + x))) = 1 ∨ (h 96 (10 + 4 * (6 * y + x))) = 2) → (way = 0 → 0 < (h 96 (10 + 4 * (6 * y + x) + 3))) ∧ (¬ way = 0 → (h 96 (10 + 4 * (6 * y + x) + 3)) < (h 96 (10 + 4 * (6 * y + x) + 1)))) ∧ 0 ≤ x ∧ x < (h 96 0) ∧ 0 ≤ y ∧ y < (h 96 1) ∧ 0 ≤ way ∧ way ≤ 1 ∧ 0 ≤ s ∧ s ≤ 1000000 ∧ ov_cgi (h 96) x y way = 1 := f4.2.1 (by omega)
    clear f4
    refine ov_blk (ls2 := [(0, ov_r 90), (1, ov_i x), (2, ov_i y), (3, ov_i way), (4, ov_i s)]) (st2 := [ov_i s, ov_i way, ov_i y, ov_i x, ov_r 90]) (pc2 := 23) b_251_17_5 rfl rfl ?_
    refine ov_cV (as := [ov_i x, ov_i y, ov_i way, ov_i s]) (st := []) (d2 := d - 1) d_251_23 lk_Mo_315 rfl (Nat.le_of_ble_eq_true rfl) (c := 1) (zb_90 I1) (zs_90 I1) ⟨by decide, rfl⟩ (by omega) (c_Mo_waitFor_90 (d - 1) (by omega) U I1 x y way s (by omega) (by omega) (by omega) (by omega) (by omega) (by omega) (by omega) (by show (((h 96 (10 + 4 * (6 * y + x))) = 1 ∨ (h 96 (10 + 4 * (6 * y + x))) = 2) → (way = 0 → 0 < (h 96 (10 + 4 * (6 * y + x) + 3))) ∧ (¬ way = 0 → (h 96 (10 + 4 * (6 * y + x) + 3)) < (h 96 (10 + 4 * (6 * y + x) + 1)))); omega) W) ?_
    rintro _ _ _ ⟨v9, rfl, rfl, rfl, f8⟩
    show ov_R u d ov_m251 26 [(0, ov_r 90), (1, ov_i x), (2, ov_i y), (3, ov_i way), (4, ov_i s)] [ov_i v9] z (ov_up h 90 0 0) (P_Mo_until_90_t F z h x y way s)
    have f10 : 0 ≤ v9 ∧ v9 ≤ 59 ∧ v9 = ov_wm (h 96) (6 * y + x) way s := f8
    clear f8
    refine ov_goto (tgt := 30) d_251_26 (by decide) ?_
    have gz : ov_unm (h 96) x y way s = v9 := by unfold ov_unm; rw [ov_ite_t (show ov_mayf (h 96) x y way s by unfold ov_mayf; omega)]; (try unfold ov_gri); (repeat' split) <;> omega
    exact ov_reti (st := []) d_251_30 rfl ⟨_, rfl, I1, ⟨rfl, rfl, rfl, rfl, rfl, rfl, rfl, rfl, rfl, rfl, rfl, rfl, (by show -2147483648 ≤ v9 ∧ v9 ≤ 2147483647 ∧ v9 = ov_unm (h 96) x y way s; omega)⟩, rfl, rfl, rfl, rfl, rfl, rfl, rfl, rfl, rfl, rfl, rfl, rfl, rfl, rfl, rfl, rfl⟩

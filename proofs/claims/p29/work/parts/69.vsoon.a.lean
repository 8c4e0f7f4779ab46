/-! the soonest of both: the same -/
/-- the ways of the soonest from a corner on, the class's: the w-th one; beyond: -2 -/
def ov_foc (f : ov_TW) (e : Int) : Nat → Int → Int → Int → Int
  | 0, _, _, _ => -2
  | k + 1, c, t, w => if c = ov_hmf f then -2 else if ov_ob f c 0 = 1 ∧ ov_SA f (c + 1) (ov_fwc f c 0 t) = e then (if w = 0 then 0 else ov_foc f e k (c + 1) (ov_fwc f c 0 t) (w - 1)) else (if w = 0 then 1 else ov_foc f e k (c + 6) (ov_fwc f c 1 t) (w - 1))
/-- .. the reference's -/
def ov_fom (f : Int → Int) (e : Int) : Nat → Int → Int → Int → Int → Int
  | 0, _, _, _, _ => -2
  | k + 1, x, y, t, w => if x = f 0 - 1 ∧ y = f 1 - 1 then -2 else if ov_cgi f x y 0 = 1 ∧ ov_so f (x + 1) y (t + ov_wm f (6 * y + x) 0 t + f 2) = e then (if w = 0 then 0 else ov_fom f e k (x + 1) y (t + ov_wm f (6 * y + x) 0 t + f 2) (w - 1)) else (if w = 0 then 1 else ov_fom f e k x (y + 1) (t + ov_wm f (6 * y + x) 1 t + f 2) (w - 1))
def ov_sww (f : ov_TW) (c s w : Int) : Int := if ov_SA f c s = 2000000000 then -2 else ov_foc f (ov_SA f c s) 13 c s w
def ov_swm (f : Int → Int) (x y s w : Int) : Int := if ov_so f x y s = 2000000000 then -2 else ov_fom f (ov_so f x y s) 13 x y s w
def ov_soc (wi lo : Int) (f : ov_TW) (x y s w : Int) : Int := if 0 ≤ x ∧ x < wi ∧ 0 ≤ y ∧ y < lo ∧ 0 ≤ s ∧ s ≤ 1000000 ∧ -1 ≤ w ∧ w ≤ 12 then (if w = -1 then (if ov_SA f (6 * y + x) s = 2000000000 then -2 else ov_SA f (6 * y + x) s) else ov_sww f (6 * y + x) s w) else -2
def ov_som (f : Int → Int) (x y s w : Int) : Int := if 0 ≤ x ∧ x < f 0 ∧ 0 ≤ y ∧ y < f 1 ∧ 0 ≤ s ∧ s ≤ 1000000 ∧ -1 ≤ w then (if w = -1 then (if ov_so f x y s = 2000000000 then -2 else ov_so f x y s) else ov_swm f x y s w) else -2
theorem ov_foc_home {f : ov_TW} {e c t w : Int} (h : c = ov_hmf f) : ∀ k : Nat, ov_foc f e k c t w = -2
  | 0 => rfl
  | k + 1 => by
    show (if c = ov_hmf f then -2 else _) = _
    rw [if_pos h]
theorem ov_foc_r {f : ov_TW} {e c t w way k : Int} (hk : 0 ≤ k ∧ k ≤ 12) (nh : ¬ c = ov_hmf f) (hN : (way = 0 ∧ ov_ob f c 0 = 1 ∧ ov_SA f (c + 1) (ov_fwc f c 0 t) = e) ∨ (way = 1 ∧ ¬ (ov_ob f c 0 = 1 ∧ ov_SA f (c + 1) (ov_fwc f c 0 t) = e))) (hw : w = 0) : ov_foc f e (Int.toNat (13 - k)) c t w = way := by
  obtain ⟨n, hn⟩ : ∃ n : Nat, Int.toNat (13 - k) = n + 1 := ⟨Int.toNat (12 - k), by omega⟩
  rw [hn]
  show (if c = ov_hmf f then -2 else _) = _
  rw [if_neg nh]
  rcases hN with ⟨rfl, q⟩ | ⟨rfl, q⟩
  · rw [if_pos q, if_pos hw]
  · rw [if_neg q, if_pos hw]
theorem ov_foc_n {f : ov_TW} {e c t w way k : Int} (hk : 0 ≤ k ∧ k ≤ 12) (nh : ¬ c = ov_hmf f) (hN : (way = 0 ∧ ov_ob f c 0 = 1 ∧ ov_SA f (c + 1) (ov_fwc f c 0 t) = e) ∨ (way = 1 ∧ ¬ (ov_ob f c 0 = 1 ∧ ov_SA f (c + 1) (ov_fwc f c 0 t) = e))) (hw : ¬ w = 0) : ov_foc f e (Int.toNat (13 - k)) c t w = ov_foc f e (Int.toNat (13 - (k + 1))) (ov_nxc c way) (ov_fwc f c way t) (w - 1) := by
  have hn : Int.toNat (13 - k) = Int.toNat (13 - (k + 1)) + 1 := by omega
  rw [hn]
  show (if c = ov_hmf f then -2 else _) = _
  rw [if_neg nh]
  rcases hN with ⟨rfl, q⟩ | ⟨rfl, q⟩
  · rw [if_pos q, if_neg hw]
    rfl
  · rw [if_neg q, if_neg hw]
    rfl
theorem ov_fom_home {f : Int → Int} {e x y t w : Int} (h : x = f 0 - 1 ∧ y = f 1 - 1) : ∀ k : Nat, ov_fom f e k x y t w = -2
  | 0 => rfl
  | k + 1 => by
    show (if x = f 0 - 1 ∧ y = f 1 - 1 then -2 else _) = _
    rw [if_pos h]
theorem ov_fom_r {f : Int → Int} {e x y t w way k : Int} (hk : 0 ≤ k ∧ k ≤ 12) (nh : ¬ (x = f 0 - 1 ∧ y = f 1 - 1)) (hN : (way = 0 ∧ ov_cgi f x y 0 = 1 ∧ ov_so f (x + 1) y (t + ov_wm f (6 * y + x) 0 t + f 2) = e) ∨ (way = 1 ∧ ¬ (ov_cgi f x y 0 = 1 ∧ ov_so f (x + 1) y (t + ov_wm f (6 * y + x) 0 t + f 2) = e))) (hw : w = 0) : ov_fom f e (Int.toNat (13 - k)) x y t w = way := by
  obtain ⟨n, hn⟩ : ∃ n : Nat, Int.toNat (13 - k) = n + 1 := ⟨Int.toNat (12 - k), by omega⟩
  rw [hn]
  show (if x = f 0 - 1 ∧ y = f 1 - 1 then -2 else _) = _
  rw [if_neg nh]
  rcases hN with ⟨rfl, q⟩ | ⟨rfl, q⟩
  · rw [if_pos q, if_pos hw]
  · rw [if_neg q, if_pos hw]
theorem ov_fom_n {f : Int → Int} {e x y t w way k : Int} (hk : 0 ≤ k ∧ k ≤ 12) (nh : ¬ (x = f 0 - 1 ∧ y = f 1 - 1)) (hN : (way = 0 ∧ ov_cgi f x y 0 = 1 ∧ ov_so f (x + 1) y (t + ov_wm f (6 * y + x) 0 t + f 2) = e) ∨ (way = 1 ∧ ¬ (ov_cgi f x y 0 = 1 ∧ ov_so f (x + 1) y (t + ov_wm f (6 * y + x) 0 t + f 2) = e))) (hw : ¬ w = 0) : ov_fom f e (Int.toNat (13 - k)) x y t w = ov_fom f e (Int.toNat (13 - (k + 1))) (x + 1 - way) (y + way) (t + ov_wm f (6 * y + x) way t + f 2) (w - 1) := by
  have hn : Int.toNat (13 - k) = Int.toNat (13 - (k + 1)) + 1 := by omega
  rw [hn]
  show (if x = f 0 - 1 ∧ y = f 1 - 1 then -2 else _) = _
  rw [if_neg nh]
  rcases hN with ⟨rfl, q⟩ | ⟨rfl, q⟩
  · rw [if_pos q, if_neg hw, Int.sub_zero, Int.add_zero]
  · rw [if_neg q, if_neg hw, Int.add_sub_cancel]
/-- beyond: none -/
theorem ov_fom_far {f : Int → Int} {e : Int} : ∀ (k : Nat) {x y t w : Int}, (k : Int) ≤ w → ov_fom f e k x y t w = -2
  | 0, _, _, _, _, _ => rfl
  | k + 1, x, y, t, w, hw => by
    show (if x = f 0 - 1 ∧ y = f 1 - 1 then -2 else _) = _
    rw [if_neg (show ¬ w = 0 by omega), if_neg (show ¬ w = 0 by omega), ov_fom_far k (by omega), ov_fom_far k (by omega)]
    (repeat' split) <;> rfl
section
variable {f r0 r1 r2 r3 r4 r5 r6 r7 : Int → Int}
theorem ov_TE_hm (K : tw_TB f r0 r1 r2 r3 r4 r5 r6 r7) {x y : Int} (hx : 0 ≤ x ∧ x < f 0) (hy : 0 ≤ y ∧ y < f 1) : 6 * y + x = ov_hmf (r0, r1, r2, r3, r4, r6, r7) ↔ (x = f 0 - 1 ∧ y = f 1 - 1) := by
  have e0 := K.1.1
  have e1 := K.1.2.1
  have b := K.2.2.2.2.2
  show 6 * y + x = (r0 1 - 1) * 6 + r0 0 - 1 ↔ _
  rw [e0, e1]
  omega
theorem ov_TE_fw (K : tw_TB f r0 r1 r2 r3 r4 r5 r6 r7) (W : ov_WT f) {c way t : Int} (hc : 0 ≤ c ∧ c < 54) : ov_fwc (r0, r1, r2, r3, r4, r6, r7) c way t = t + ov_wm f c way t + f 2 := by
  show t + ov_wtv (r1 c) (r2 c) (r3 c) (r4 c) way t + r6 0 = _
  rw [ov_TE_wt K W hc, K.2.2.2.1.1]
theorem ov_TE_SA (K : tw_TB f r0 r1 r2 r3 r4 r5 r6 r7) (W : ov_WT f) (O : ov_OKf (r0, r1, r2, r3, r4, r6, r7)) : ∀ (n : Nat) (x y t : Int), 0 ≤ x → x < f 0 → 0 ≤ y → y < f 1 → f 0 - 1 - x + (f 1 - 1 - y) < (n : Int) → 0 ≤ t → t + 90 * (n : Int) ≤ 1100000 → ov_SA (r0, r1, r2, r3, r4, r6, r7) (6 * y + x) t = ov_so f x y t
  | 0, x, y, t, x0, x1, y0, y1, hn, t0, t1 => absurd hn (by omega)
  | n + 1, x, y, t, x0, x1, y0, y1, hn, t0, t1 => by
    have b := K.2.2.2.2.2
    have hm := ov_TE_hm K (x := x) (y := y) ⟨x0, x1⟩ ⟨y0, y1⟩
    by_cases hq : x = f 0 - 1 ∧ y = f 1 - 1
    · rw [ov_SA_home (hm.2 hq), ov_so_home (by omega) hq]
    · have on := ov_TE_on K (x := x) (y := y) (by omega) (by omega)
      have ic := n
      have so := ov_so_eq (s := t) (show x + y ≤ 13 by omega) hq
      rw [ov_SA_eq O (by omega) (fun w => hq (hm.1 w)), ov_ob0, ov_ob1]
      show min (if r7 (6 * y + x) % 2 = 1 then _ else _) (if r7 (6 * y + x) / 2 = 1 then _ else _) = _
      rw [on.1, on.2, ov_TE_fw K W (by omega), ov_TE_fw K W (by omega)]
      have w0 := ov_fwc_rng O (c := 6 * y + x) (way := 0) (t := t)
      have w1 := ov_fwc_rng O (c := 6 * y + x) (way := 1) (t := t)
      rw [ov_TE_fw K W (by omega)] at w0 w1
      have A0 : (if ov_cgi f x y 0 = 1 then ov_SA (r0, r1, r2, r3, r4, r6, r7) (6 * y + x + 1) (t + ov_wm f (6 * y + x) 0 t + f 2) else 2000000000) = ov_sa f x y t 0 := by
        by_cases c : ov_cgi f x y 0 = 1
        · have sp := ((ov_cgi_sp f x y 0).2 c).1.1 rfl
          rw [if_pos c, ov_sa_1 c, show 6 * y + x + 1 = 6 * y + (x + 1) by omega, ov_TE_SA K W O n (x + 1) y _ (by omega) (by omega) y0 y1 (by omega) (by omega) (by omega), Int.sub_zero, Int.add_zero]
        · rw [if_neg c, ov_sa_0 c]
      have A1 : (if ov_cgi f x y 1 = 1 then ov_SA (r0, r1, r2, r3, r4, r6, r7) (6 * y + x + 6) (t + ov_wm f (6 * y + x) 1 t + f 2) else 2000000000) = ov_sa f x y t 1 := by
        by_cases c : ov_cgi f x y 1 = 1
        · have sp := ((ov_cgi_sp f x y 1).2 c).1.2 (by decide)
          rw [if_pos c, ov_sa_1 c, show 6 * y + x + 6 = 6 * (y + 1) + x by omega, ov_TE_SA K W O n x (y + 1) _ x0 x1 (by omega) (by omega) (by omega) (by omega) (by omega), Int.add_sub_cancel]
        · rw [if_neg c, ov_sa_0 c]
      have B0 : (if ov_cgi f x y 0 = 1 then ov_SA (r0, r1, r2, r3, r4, r6, r7) (6 * y + x + 1) (t + ov_wm f (6 * y + x) 0 t + f 2) else 2000000000) ≤ 2000000000 := by
        split
        · exact (ov_SA_rng O (by omega) (by omega)).2
        · exact Int.le_refl _
      have B1 : (if ov_cgi f x y 1 = 1 then ov_SA (r0, r1, r2, r3, r4, r6, r7) (6 * y + x + 6) (t + ov_wm f (6 * y + x) 1 t + f 2) else 2000000000) ≤ 2000000000 := by
        split
        · exact (ov_SA_rng O (by omega) (by omega)).2
        · exact Int.le_refl _
      rw [A0] at B0
      rw [A1] at B1
      rw [A0, A1]
      omega
theorem ov_TE_fo (K : tw_TB f r0 r1 r2 r3 r4 r5 r6 r7) (W : ov_WT f) (O : ov_OKf (r0, r1, r2, r3, r4, r6, r7)) {e : Int} (he : ¬ e = 2000000000) : ∀ (k : Nat) (x y t w : Int), 0 ≤ x → x < f 0 → 0 ≤ y → y < f 1 → 0 ≤ t → t + 90 * (k : Int) + 1400 ≤ 1100000 → ov_so f x y t = e → ov_foc (r0, r1, r2, r3, r4, r6, r7) e k (6 * y + x) t w = ov_fom f e k x y t w
  | 0, x, y, t, w, x0, x1, y0, y1, t0, t1, hs => rfl
  | k + 1, x, y, t, w, x0, x1, y0, y1, t0, t1, hs => by
    have b := K.2.2.2.2.2
    have hm := ov_TE_hm K (x := x) (y := y) ⟨x0, x1⟩ ⟨y0, y1⟩
    by_cases hq : x = f 0 - 1 ∧ y = f 1 - 1
    · rw [ov_foc_home (hm.2 hq), ov_fom_home hq]
    · have on := ov_TE_on K (x := x) (y := y) (by omega) (by omega)
      have w0 := ov_fwc_rng O (c := 6 * y + x) (way := 0) (t := t)
      have w1 := ov_fwc_rng O (c := 6 * y + x) (way := 1) (t := t)
      have f0 := ov_TE_fw K W (c := 6 * y + x) (way := 0) (t := t) (by omega)
      have f1 := ov_TE_fw K W (c := 6 * y + x) (way := 1) (t := t) (by omega)
      rw [f0] at w0
      rw [f1] at w1
      have C : (ov_ob (r0, r1, r2, r3, r4, r6, r7) (6 * y + x) 0 = 1 ∧ ov_SA (r0, r1, r2, r3, r4, r6, r7) (6 * y + x + 1) (ov_fwc (r0, r1, r2, r3, r4, r6, r7) (6 * y + x) 0 t) = e) ↔ (ov_cgi f x y 0 = 1 ∧ ov_so f (x + 1) y (t + ov_wm f (6 * y + x) 0 t + f 2) = e) := by
        rw [ov_ob0, f0]
        show (r7 (6 * y + x) % 2 = 1 ∧ _) ↔ _
        rw [on.1]
        constructor
        · rintro ⟨c, q⟩
          have sp := ((ov_cgi_sp f x y 0).2 c).1.1 rfl
          rw [show 6 * y + x + 1 = 6 * y + (x + 1) by omega, ov_TE_SA K W O 14 (x + 1) y _ (by omega) (by omega) y0 y1 (by omega) (by omega) (by omega)] at q
          exact ⟨c, q⟩
        · rintro ⟨c, q⟩
          have sp := ((ov_cgi_sp f x y 0).2 c).1.1 rfl
          refine ⟨c, ?_⟩
          rw [show 6 * y + x + 1 = 6 * y + (x + 1) by omega, ov_TE_SA K W O 14 (x + 1) y _ (by omega) (by omega) y0 y1 (by omega) (by omega) (by omega)]
          exact q
      show (if 6 * y + x = ov_hmf (r0, r1, r2, r3, r4, r6, r7) then -2 else _) = (if x = f 0 - 1 ∧ y = f 1 - 1 then -2 else _)
      rw [if_neg (fun v => hq (hm.1 v)), if_neg hq]
      by_cases c : ov_cgi f x y 0 = 1 ∧ ov_so f (x + 1) y (t + ov_wm f (6 * y + x) 0 t + f 2) = e
      · have sp := ((ov_cgi_sp f x y 0).2 c.1).1.1 rfl
        rw [if_pos (C.2 c), if_pos c]
        by_cases v : w = 0
        · rw [if_pos v, if_pos v]
        · rw [if_neg v, if_neg v, f0, show 6 * y + x + 1 = 6 * y + (x + 1) by omega]
          exact ov_TE_fo K W O he k (x + 1) y _ (w - 1) (by omega) (by omega) y0 y1 (by omega) (by omega) c.2
      · rw [if_neg (fun v => c (C.1 v)), if_neg c]
        by_cases v : w = 0
        · rw [if_pos v, if_pos v]
        · have o1 := ov_so_on (f := f) (x := x) (y := y) (s := t) (e := e) (by omega) hq hs he (by
            by_cases g : ov_cgi f x y 0 = 1
            · refine Or.inr (fun q => c ⟨g, ?_⟩)
              rw [Int.sub_zero, Int.add_zero] at q
              exact q
            · exact Or.inl g)
          have o2 := o1.2.1
          rw [Int.add_sub_cancel] at o2
          have sp := o1.2.2.1
          rw [if_neg v, if_neg v, f1, show 6 * y + x + 6 = 6 * (y + 1) + x by omega]
          exact ov_TE_fo K W O he k x (y + 1) _ (w - 1) x0 x1 (by omega) (by omega) (by omega) (by omega) o2
theorem ov_TE_soon (K : tw_TB f r0 r1 r2 r3 r4 r5 r6 r7) (W : ov_WT f) (O : ov_OKf (r0, r1, r2, r3, r4, r6, r7)) (x y s w : Int) : ov_soc (r0 0) (r0 1) (r0, r1, r2, r3, r4, r6, r7) x y s w = ov_som f x y s w := by
  have e0 := K.1.1
  have e1 := K.1.2.1
  have b := K.2.2.2.2.2
  unfold ov_soc ov_som
  rw [e0, e1]
  by_cases q : 0 ≤ x ∧ x < f 0 ∧ 0 ≤ y ∧ y < f 1 ∧ 0 ≤ s ∧ s ≤ 1000000 ∧ -1 ≤ w
  · have SA := ov_TE_SA K W O 14 x y s (by omega) (by omega) (by omega) (by omega) (by omega) (by omega) (by omega)
    rw [if_pos q]
    by_cases v : w ≤ 12
    · rw [if_pos (by omega), SA]
      by_cases v1 : w = -1
      · rw [if_pos v1, if_pos v1]
      · rw [if_neg v1, if_neg v1]
        unfold ov_sww ov_swm
        rw [SA]
        by_cases u : ov_so f x y s = 2000000000
        · rw [if_pos u, if_pos u]
        · rw [if_neg u, if_neg u]
          exact ov_TE_fo K W O u 13 x y s w (by omega) (by omega) (by omega) (by omega) (by omega) (by omega) rfl
    · rw [if_neg (by omega), if_neg (by omega)]
      unfold ov_swm
      rw [ov_fom_far 13 (by omega)]
      (repeat' split) <;> rfl
  · rw [if_neg (by omega), if_neg q]
/-- how far apart the two ends are at most -/
def ov_hb : Nat → Int
  | 0 => 1200
  | k + 1 => (ov_hb k + 1) / 2
theorem ov_hb_s {x : Int} (hx : 0 ≤ x) : ov_hb (Int.toNat (x + 1)) = (ov_hb (Int.toNat x) + 1) / 2 := by
  rw [show Int.toNat (x + 1) = Int.toNat x + 1 by omega]
  rfl
/-- which second is the last that is as soon -/
def ov_LC (S : Int → Int) (s C r : Int) : Prop := S s = S r ∧ s ≤ r ∧ r < s + C ∧ (r + 1 = s + C ∨ ¬ S (r + 1) = S s)
theorem ov_LC_u {S : Int → Int} {s C r r2 : Int} (mono : ∀ a b : Int, s ≤ a → a ≤ b → b < s + C → S a ≤ S b) (a : ov_LC S s C r) (b : S s = S r2 ∧ s ≤ r2 ∧ r2 < s + C ∧ ∀ j : Int, 1 ≤ j → j < C → S (s + j) = S s → s + j ≤ r2) : r = r2 := by
  obtain ⟨a1, a2, a3, a4⟩ := a
  obtain ⟨b1, b2, b3, b4⟩ := b
  have l1 : r ≤ r2 := by
    by_cases q : r = s
    · omega
    · have w := b4 (r - s) (by omega) (by omega) (by rw [show s + (r - s) = r by omega]; exact a1.symm)
      omega
  by_cases q : r = r2
  · exact q
  · have m1 := mono s (r + 1) (Int.le_refl s) (by omega) (by omega)
    have m2 := mono (r + 1) r2 (by omega) (by omega) b3
    rcases a4 with a4 | a4
    · omega
    · exact absurd (by omega) a4
end
/-- F keeps the rows of the town at T -/
def ov_fT (T : Int) (F : ov_H) : Prop := ∀ b : Int, T ≤ b → b < T + 8 → F (-6) b = 1
theorem ov_tw58_F {F : ov_H} {z : ov_Z} {h : ov_H} (I : ov_I F z h) (fT : ov_fT 58 F) : ov_tw58 h = ov_tw58 F := by
  have e : ∀ b : Int, 58 ≤ b → b < 58 + 8 → h b = F b := fun b h0 h1 => I.2.2.2 b (Or.inr (by omega)) (fT b h0 h1)
  show (h 58, h 59, h 60, h 61, h 62, h 64, h 65) = (F 58, F 59, F 60, F 61, F 62, F 64, F 65)
  rw [e 58 (by decide) (by decide), e 59 (by decide) (by decide), e 60 (by decide) (by decide), e 61 (by decide) (by decide), e 62 (by decide) (by decide), e 64 (by decide) (by decide), e 65 (by decide) (by decide)]
theorem ov_tw70_F {F : ov_H} {z : ov_Z} {h : ov_H} (I : ov_I F z h) (fT : ov_fT 70 F) : ov_tw70 h = ov_tw70 F := by
  have e : ∀ b : Int, 70 ≤ b → b < 70 + 8 → h b = F b := fun b h0 h1 => I.2.2.2 b (Or.inr (by omega)) (fT b h0 h1)
  show (h 70, h 71, h 72, h 73, h 74, h 76, h 77) = (F 70, F 71, F 72, F 73, F 74, F 76, F 77)
  rw [e 70 (by decide) (by decide), e 71 (by decide) (by decide), e 72 (by decide) (by decide), e 73 (by decide) (by decide), e 74 (by decide) (by decide), e 76 (by decide) (by decide), e 77 (by decide) (by decide)]
theorem ov_fT_eq {T : Int} {F : ov_H} {z z2 : ov_Z} {h h2 : ov_H} (I : ov_I F z h) (I2 : ov_I F z2 h2) (fT : ov_fT T F) (hT : T = 58 ∨ T = 70) {b : Int} (hb : T ≤ b ∧ b < T + 8) : h2 b = h b := (I2.2.2.2 b (Or.inr (by omega)) (fT b hb.1 hb.2)).trans (I.2.2.2 b (Or.inr (by omega)) (fT b hb.1 hb.2)).symm

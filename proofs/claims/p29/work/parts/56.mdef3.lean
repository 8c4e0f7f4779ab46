/-! the reference's rules as a function -/
/-- one operation on two numbers -/
def ov_bo (c a b : Int) : Int :=
  if c = 4 then ov_w (a + b) else if c = 5 then ov_w (a - b) else if c = 6 then ov_w (a * b) else if c = 7 then (if a < b then 1 else 0) else if c = 8 then (if a = b then 1 else 0)
  else if c = 9 then (if ¬ a = 0 ∧ ¬ b = 0 then 1 else 0) else (if ¬ a = 0 ∨ ¬ b = 0 then 1 else 0)
/-- the pile's least number when a rule's codes have run -/
def ov_ev (g p fa : Int → Int) : Nat → Int → Int → (Int → Int) → Int
  | 0, _, _, q => q 0
  | n + 1, i, t, q =>
    if g i = 0 then q 0
    else if g i = 1 then ov_ev g p fa n (i + 1) (t + 1) (ov_rs q t (p i))
    else if g i = 2 then ov_ev g p fa n (i + 1) (t + 1) (ov_rs q t (fa (p i)))
    else if g i = 3 then ov_ev g p fa n (i + 1) t (ov_rs q (t - 1) (if q (t - 1) = 0 then 1 else 0))
    else ov_ev g p fa n (i + 1) (t - 1) (ov_rs q (t - 2) (ov_bo (g i) (q (t - 2)) (q (t - 1))))
theorem ov_ev_0 {g p fa q : Int → Int} {n : Nat} {i t : Int} (hg : g i = 0) : ov_ev g p fa (n + 1) i t q = q 0 := by
  show (if _ then _ else _) = _
  rw [if_pos hg]
theorem ov_ev_1 {g p fa q : Int → Int} {n : Nat} {i t : Int} (hg : g i = 1) : ov_ev g p fa (n + 1) i t q = ov_ev g p fa n (i + 1) (t + 1) (ov_rs q t (p i)) := by
  show (if _ then _ else _) = _
  rw [if_neg (by omega), if_pos hg]
theorem ov_ev_2 {g p fa q : Int → Int} {n : Nat} {i t : Int} (hg : g i = 2) : ov_ev g p fa (n + 1) i t q = ov_ev g p fa n (i + 1) (t + 1) (ov_rs q t (fa (p i))) := by
  show (if _ then _ else _) = _
  rw [if_neg (by omega), if_neg (by omega), if_pos hg]
theorem ov_ev_3 {g p fa q : Int → Int} {n : Nat} {i t : Int} (hg : g i = 3) : ov_ev g p fa (n + 1) i t q = ov_ev g p fa n (i + 1) t (ov_rs q (t - 1) (if q (t - 1) = 0 then 1 else 0)) := by
  show (if _ then _ else _) = _
  rw [if_neg (by omega), if_neg (by omega), if_neg (by omega), if_pos hg]
theorem ov_ev_4 {g p fa q : Int → Int} {n : Nat} {i t : Int} (hg : 4 ≤ g i) : ov_ev g p fa (n + 1) i t q = ov_ev g p fa n (i + 1) (t - 1) (ov_rs q (t - 2) (ov_bo (g i) (q (t - 2)) (q (t - 1)))) := by
  show (if _ then _ else _) = _
  rw [if_neg (by omega), if_neg (by omega), if_neg (by omega), if_neg (by omega)]
/-- what lies above the pile's height, and other facts than the four, don't matter -/
theorem ov_ev_in {g p fa fb : Int → Int} (hf : ∀ j : Int, 0 ≤ j → j ≤ 3 → fa j = fb j) : ∀ (n : Nat) (i t t' : Int) (m : Nat) (q q' : Int → Int), 0 ≤ t → 1 ≤ t' → ov_st g p m i t t' → g (i + m) = 0 → m < n → (∀ j : Int, 0 ≤ j → j < t → q j = q' j) → ov_ev g p fa n i t q = ov_ev g p fb n i t q'
  | 0, _, _, _, _, _, _, _, _, _, _, hm, _ => absurd hm (Nat.not_lt_zero _)
  | n + 1, i, t, t', 0, q, q', h0, h1, hs, hg, hm, hq => by
    have e : t = t' := hs
    have hg' : g i = 0 := by simpa using hg
    rw [ov_ev_0 hg', ov_ev_0 hg']
    exact hq 0 (by omega) (by omega)
  | n + 1, i, t, t', m + 1, q, q', h0, h1, ⟨t1, hs1, hs2⟩, hg, hm, hq => by
    have hg2 : g (i + 1 + (m : Int)) = 0 := by
      rw [show i + 1 + (m : Int) = i + ((m + 1 : Nat) : Int) by omega]
      exact hg
    have ih := fun (t1 : Int) (r r' : Int → Int) (a : 0 ≤ t1) (b : ov_st g p m (i + 1) t1 t') (c : ∀ j : Int, 0 ≤ j → j < t1 → r j = r' j) => ov_ev_in hf n (i + 1) t1 t' m r r' a h1 b hg2 (by omega) c
    rcases hs1 with ⟨c1, e1⟩ | ⟨c1, c2, c3, e1⟩ | ⟨c1, c2, e1⟩ | ⟨c1, c2, e1⟩
    · rw [ov_ev_1 c1, ov_ev_1 c1]
      subst e1
      refine ih (t + 1) _ _ (by omega) hs2 fun j a b => ?_
      by_cases e : j = t
      · rw [e, ov_rs_eq, ov_rs_eq]
      · rw [ov_rs_ne e, ov_rs_ne e]
        exact hq j a (by omega)
    · rw [ov_ev_2 c1, ov_ev_2 c1]
      subst e1
      refine ih (t + 1) _ _ (by omega) hs2 fun j a b => ?_
      by_cases e : j = t
      · rw [e, ov_rs_eq, ov_rs_eq]
        exact hf _ c2 c3
      · rw [ov_rs_ne e, ov_rs_ne e]
        exact hq j a (by omega)
    · rw [ov_ev_3 c1, ov_ev_3 c1]
      rw [e1] at hs2
      refine ih t _ _ h0 hs2 fun j a b => ?_
      by_cases e : j = t - 1
      · rw [e, ov_rs_eq, ov_rs_eq, hq _ (by omega) (by omega)]
      · rw [ov_rs_ne e, ov_rs_ne e]
        exact hq j a (by omega)
    · rw [ov_ev_4 c1, ov_ev_4 c1]
      subst e1
      refine ih (t - 1) _ _ (by omega) hs2 fun j a b => ?_
      by_cases e : j = t - 2
      · rw [e, ov_rs_eq, ov_rs_eq, hq _ (by omega) (by omega), hq _ (by omega) (by omega)]
      · rw [ov_rs_ne e, ov_rs_ne e]
        exact hq j a (by omega)
/-- a rule's worth -/
def ov_rw (g p fa : Int → Int) (i : Int) : Int := ov_ev g p fa 1101 i 0 (fun _ => 0)
theorem ov_rw_of {g p fa fb q : Int → Int} {i : Int} (R : ov_rn g p i 0) (hf : ∀ j : Int, 0 ≤ j → j ≤ 3 → fa j = fb j) : ov_ev g p fa 1101 i 0 q = ov_rw g p fb i := by
  obtain ⟨n, t', h1, h2, h3, h4, h5⟩ := R
  exact ov_ev_in hf 1101 i 0 t' n q _ (by omega) h3 h4 h5 (by omega) (fun j a b => by omega)

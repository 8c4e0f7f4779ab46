/-! the best pace as a function -/
def ov_rt (f : Int → Int) : Int := if f 3 < 0 then f 2 else f 3
def ov_slt (f : Int → Int) : Int := if f 4 < 0 then f 2 else f 4
def ov_fst (f : Int → Int) : Int := if ov_slt f < ov_rt f then f 2 else ov_rt f
def ov_slw (f : Int → Int) : Int := if ov_slt f < ov_rt f then f 2 else ov_slt f
theorem ov_fsl (f : Int → Int) : ov_fst f ≤ ov_slw f := by
  unfold ov_fst ov_slw
  split <;> omega
def ov_mn (g : Int → Int) (a : Int) : Nat → Int
  | 0 => 2000000000
  | n + 1 => if g (a + n) < ov_mn g a n then g (a + n) else ov_mn g a n
theorem ov_mn_s {g : Int → Int} {a s : Int} (hs : a ≤ s) : (g s < ov_mn g a (Int.toNat (s - a)) → ov_mn g a (Int.toNat (s + 1 - a)) = g s) ∧ (¬ g s < ov_mn g a (Int.toNat (s - a)) → ov_mn g a (Int.toNat (s + 1 - a)) = ov_mn g a (Int.toNat (s - a))) := by
  rw [show Int.toNat (s + 1 - a) = Int.toNat (s - a) + 1 by omega]
  have e : a + ((Int.toNat (s - a) : Nat) : Int) = s := by omega
  constructor
  · intro q
    show (if _ then _ else _) = _
    rw [e, if_pos q]
  · intro q
    show (if _ then _ else _) = _
    rw [e, if_neg q]
theorem ov_mn_mem {g : Int → Int} {a : Int} : ∀ n : Nat, ov_mn g a n = 2000000000 ∨ ∃ s : Int, a ≤ s ∧ s < a + n ∧ g s = ov_mn g a n
  | 0 => Or.inl rfl
  | n + 1 => by
    by_cases q : g (a + n) < ov_mn g a n
    · refine Or.inr ⟨a + n, by omega, by omega, ?_⟩
      show _ = (if _ then _ else _)
      rw [if_pos q]
    · have e : ov_mn g a (n + 1) = ov_mn g a n := by
        show (if _ then _ else _) = _
        rw [if_neg q]
      rw [e]
      rcases ov_mn_mem n with h | ⟨s, h1, h2, h3⟩
      · exact Or.inl h
      · exact Or.inr ⟨s, h1, by omega, h3⟩
def ov_pq (f w : Int → Int) (so : Int) (B : Int → Int → Int → Int) (ln tm rn s : Int) : Int :=
  if ov_cgi f (ov_sx w (Int.toNat ln)) (ln - ov_sx w (Int.toNat ln)) (w (1 + 2 * ln)) = 1 ∧ (f 2 ≤ s ∨ ¬ rn = 0) then
    (if B (ln + 1) (tm + ov_wm f (6 * (ln - ov_sx w (Int.toNat ln)) + ov_sx w (Int.toNat ln)) (w (1 + 2 * ln)) (so + tm) + s) (if s < f 2 then rn - 1 else rn) = 2000000000 ∨ ov_wm f (6 * (ln - ov_sx w (Int.toNat ln)) + ov_sx w (Int.toNat ln)) (w (1 + 2 * ln)) (so + tm) = 0
     then B (ln + 1) (tm + ov_wm f (6 * (ln - ov_sx w (Int.toNat ln)) + ov_sx w (Int.toNat ln)) (w (1 + 2 * ln)) (so + tm) + s) (if s < f 2 then rn - 1 else rn)
     else B (ln + 1) (tm + ov_wm f (6 * (ln - ov_sx w (Int.toNat ln)) + ov_sx w (Int.toNat ln)) (w (1 + 2 * ln)) (so + tm) + s) (if s < f 2 then rn - 1 else rn) + 100000)
  else 2000000000
theorem ov_pq_0 {f w : Int → Int} {so : Int} {B : Int → Int → Int → Int} {ln tm rn s x : Int} (hx : x = ov_sx w (Int.toNat ln)) (hc : ¬ (ov_cgi f x (ln - x) (w (1 + 2 * ln)) = 1 ∧ (f 2 ≤ s ∨ ¬ rn = 0))) : ov_pq f w so B ln tm rn s = 2000000000 := by
  unfold ov_pq
  rw [← hx, if_neg hc]
theorem ov_pq_1 {f w : Int → Int} {so : Int} {B : Int → Int → Int → Int} {ln tm rn s x wt rr b : Int} (hx : x = ov_sx w (Int.toNat ln)) (hc : ov_cgi f x (ln - x) (w (1 + 2 * ln)) = 1) (hr : f 2 ≤ s ∨ ¬ rn = 0) (hw : wt = ov_wm f (6 * (ln - x) + x) (w (1 + 2 * ln)) (so + tm)) (hrr : (s < f 2 ∧ rr = rn - 1) ∨ (f 2 ≤ s ∧ rr = rn)) (hb : b = B (ln + 1) (tm + wt + s) rr) : ov_pq f w so B ln tm rn s = if b = 2000000000 ∨ wt = 0 then b else b + 100000 := by
  have e : (if s < f 2 then rn - 1 else rn) = rr := by
    rcases hrr with ⟨a, c⟩ | ⟨a, c⟩
    · rw [if_pos a, c]
    · rw [if_neg (by omega), c]
  unfold ov_pq
  rw [e, ← hx, ← hw, ← hb, if_pos ⟨hc, hr⟩]
theorem ov_pq_ok {f w : Int → Int} {so : Int} {B : Int → Int → Int → Int} {ln tm rn s x wt : Int} (hx : x = ov_sx w (Int.toNat ln)) (hw : wt = ov_wm f (6 * (ln - x) + x) (w (1 + 2 * ln)) (so + tm)) (hq : ¬ ov_pq f w so B ln tm rn s = 2000000000) : (s < f 2 → ¬ B (ln + 1) (tm + wt + s) (rn - 1) = 2000000000) ∧ (f 2 ≤ s → ¬ B (ln + 1) (tm + wt + s) rn = 2000000000) := by
  have hh : ov_cgi f x (ln - x) (w (1 + 2 * ln)) = 1 ∧ (f 2 ≤ s ∨ ¬ rn = 0) := by
    by_cases c : ov_cgi f x (ln - x) (w (1 + 2 * ln)) = 1 ∧ (f 2 ≤ s ∨ ¬ rn = 0)
    · exact c
    · exact absurd (ov_pq_0 hx c) hq
  constructor
  · intro a c
    refine hq ?_
    rw [ov_pq_1 (rr := rn - 1) (b := B (ln + 1) (tm + wt + s) (rn - 1)) hx hh.1 hh.2 hw (Or.inl ⟨a, rfl⟩) rfl, if_pos (Or.inl c)]
    exact c
  · intro a c
    refine hq ?_
    rw [ov_pq_1 (rr := rn) (b := B (ln + 1) (tm + wt + s) rn) hx hh.1 hh.2 hw (Or.inr ⟨a, rfl⟩) rfl, if_pos (Or.inl c)]
    exact c
theorem ov_pq_cg {f w : Int → Int} {so : Int} {B : Int → Int → Int → Int} {ln tm rn s x : Int} (hx : x = ov_sx w (Int.toNat ln)) (hq : ¬ ov_pq f w so B ln tm rn s = 2000000000) : ov_cgi f x (ln - x) (w (1 + 2 * ln)) = 1 ∧ (f 2 ≤ s ∨ ¬ rn = 0) := by
  by_cases c : ov_cgi f x (ln - x) (w (1 + 2 * ln)) = 1 ∧ (f 2 ≤ s ∨ ¬ rn = 0)
  · exact c
  · exact absurd (ov_pq_0 hx c) hq
def ov_bq (f w : Int → Int) (so : Int) : Nat → Int → Int → Int → Int
  | 0, _, tm, _ => 1 + tm
  | k + 1, ln, tm, rn => ov_mn (ov_pq f w so (ov_bq f w so k) ln tm rn) (ov_fst f) (Int.toNat (ov_slw f + 1 - ov_fst f))
def ov_bp (f w : Int → Int) (so ln tm rn : Int) : Int := ov_bq f w so (Int.toNat (w 0 - ln)) ln tm rn
theorem ov_bp_end {f w : Int → Int} {so ln tm rn : Int} (hl : ln = w 0) : ov_bp f w so ln tm rn = 1 + tm := by
  unfold ov_bp
  rw [show Int.toNat (w 0 - ln) = 0 by omega]
  rfl
theorem ov_bp_eq {f w : Int → Int} {so ln tm rn : Int} (hl : ln < w 0) : ov_bp f w so ln tm rn = ov_mn (ov_pq f w so (ov_bp f w so) ln tm rn) (ov_fst f) (Int.toNat (ov_slw f + 1 - ov_fst f)) := by
  obtain ⟨k, hk⟩ : ∃ k : Nat, Int.toNat (w 0 - ln) = k + 1 := ⟨Int.toNat (w 0 - ln - 1), by omega⟩
  have e : ∀ a b : Int, ov_bq f w so k (ln + 1) a b = ov_bp f w so (ln + 1) a b := fun a b => by
    unfold ov_bp
    rw [show Int.toNat (w 0 - (ln + 1)) = k by omega]
  have e2 : ov_pq f w so (ov_bq f w so k) ln tm rn = ov_pq f w so (ov_bp f w so) ln tm rn := by
    funext s
    unfold ov_pq
    simp only [e]
  have e3 : ov_bp f w so ln tm rn = ov_bq f w so (k + 1) ln tm rn := by
    unfold ov_bp
    rw [hk]
  rw [e3, ← e2]
  rfl
theorem ov_bp_find {f w : Int → Int} {so ln tm rn x : Int} (hl : ln < w 0) (hb : ¬ ov_bp f w so ln tm rn = 2000000000) (hx : ov_fst f ≤ x ∧ x ≤ ov_slw f) (hq : ∀ q : Int, ov_fst f ≤ q → q < x → ¬ ov_pq f w so (ov_bp f w so) ln tm rn q = ov_bp f w so ln tm rn) (hn : ¬ ov_pq f w so (ov_bp f w so) ln tm rn x = ov_bp f w so ln tm rn) : x < ov_slw f := by
  by_cases c : x < ov_slw f
  · exact c
  · exfalso
    have e := ov_bp_eq (f := f) (so := so) (tm := tm) (rn := rn) hl
    rcases ov_mn_mem (g := ov_pq f w so (ov_bp f w so) ln tm rn) (a := ov_fst f) (Int.toNat (ov_slw f + 1 - ov_fst f)) with h | ⟨s, h1, h2, h3⟩
    · exact hb (e.trans h)
    · rw [← e] at h3
      by_cases d : s = x
      · rw [d] at h3
        exact hn h3
      · exact hq s h1 (by omega) h3
def ov_PI (f w : Int → Int) (so : Int) (pa : Int → Int) : Prop := ∀ ln tm rn : Int, 0 ≤ ln → ln < w 0 → 0 ≤ tm → tm < 1200 → 0 ≤ rn → rn ≤ 9 → pa ((ln * 1200 + tm) * 10 + rn) = 0 ∨ pa ((ln * 1200 + tm) * 10 + rn) = ov_bp f w so ln tm rn
theorem ov_PI_w {f w pa : Int → Int} {so ln tm rn v : Int} (M : ov_PI f w so pa) (ht : 0 ≤ tm ∧ tm < 1200) (hr : 0 ≤ rn ∧ rn ≤ 9) (hv : v = ov_bp f w so ln tm rn) : ov_PI f w so (ov_rs pa ((ln * 1200 + tm) * 10 + rn) v) := by
  intro a b c h1 h2 h3 h4 h5 h6
  by_cases e : (a * 1200 + b) * 10 + c = (ln * 1200 + tm) * 10 + rn
  · have e1 : a = ln := by omega
    have e2 : b = tm := by omega
    have e3 : c = rn := by omega
    rw [e, ov_rs_eq, e1, e2, e3]
    exact Or.inr hv
  · rw [ov_rs_ne e]
    exact M a b c h1 h2 h3 h4 h5 h6
theorem ov_PI_0 {f w pa : Int → Int} {so : Int} (hw : w 0 ≤ 13) (hp : ∀ j : Int, 0 ≤ j → j < 156000 → pa j = 0) : ov_PI f w so pa := by
  intro a b c h1 h2 h3 h4 h5 h6
  exact Or.inl (hp _ (by omega) (by omega))

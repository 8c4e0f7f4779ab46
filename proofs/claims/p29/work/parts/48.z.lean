/-! the soonest way on -/
theorem ov_so_on {f : Int → Int} {x y s e : Int} (hs : x + y ≤ 13) (hq : ¬ (x = f 0 - 1 ∧ y = f 1 - 1)) (he : ov_so f x y s = e) (hF : ¬ e = 2000000000) (h0 : ¬ ov_cgi f x y 0 = 1 ∨ ¬ ov_so f (x + 1 - 0) (y + 0) (s + ov_wm f (6 * y + x) 0 s + f 2) = e) :
    ov_cgi f x y 1 = 1 ∧ ov_so f (x + 1 - 1) (y + 1) (s + ov_wm f (6 * y + x) 1 s + f 2) = e ∧ y < f 1 - 1 ∧ ((f (10 + 4 * (6 * y + x)) = 1 ∨ f (10 + 4 * (6 * y + x)) = 2) → f (10 + 4 * (6 * y + x) + 3) < f (10 + 4 * (6 * y + x) + 1)) := by
  have q := (ov_so_eq (s := s) hs hq).2.2.2
  have a0 : ¬ ov_sa f x y s 0 = e := by
    by_cases c : ov_cgi f x y 0 = 1
    · rw [ov_sa_1 c]
      rcases h0 with h | h
      · exact absurd c h
      · exact h
    · rw [ov_sa_0 c]
      exact fun q => hF q.symm
  have a1 : ov_sa f x y s 1 = e := by
    rcases q with q | q | q
    · exact absurd (he.symm.trans q) hF
    · exact absurd (q.symm.trans he) a0
    · exact q.symm.trans he
  have c1 : ov_cgi f x y 1 = 1 := by
    by_cases c : ov_cgi f x y 1 = 1
    · exact c
    · rw [ov_sa_0 c] at a1
      exact absurd a1.symm hF
  rw [ov_sa_1 c1] at a1
  have sp := (ov_cgi_sp f x y 1).2 c1
  exact ⟨c1, a1, sp.1.2 (by decide), fun t => (sp.2 t).2 (by decide)⟩

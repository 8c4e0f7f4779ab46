theorem pt_is_n {t : Int → Int} {m p c : Int} (h : pt_is t m p c = 1) : p < m ∧ p < pt_nt t m p := by
  have q : p < m := by
    by_cases w : p < m
    · exact w
    · have e := (pt_end (t := t) (m := m) (p := p) (by omega)).1 c
      omega
  exact ⟨q, (pt_nt_b (by omega)).2.2 q⟩

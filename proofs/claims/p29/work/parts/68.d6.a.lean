theorem pt_is4 {t : Int → Int} {m p c : Int} : pt_is t m p c = 0 ∨ pt_is t m p c = 1 ∧ pt_ty t m p = 4 := by
  unfold pt_is
  split <;> omega
theorem pt_iw2 {t : Int → Int} {m p w : Int} : pt_iw t m p w = 0 ∨ pt_iw t m p w = 1 ∧ pt_ty t m p = 2 := by
  unfold pt_iw
  split <;> omega
theorem pt_C_10 : pt_C 10 = 1870030194 := by decide +kernel
theorem pt_C_11 : pt_C 11 = 28526 := by decide +kernel
theorem pt_C_20 : pt_C 20 = 1818584692 := by decide +kernel
theorem pt_C_21 : pt_C 21 = 30064 := by decide +kernel
theorem pt_wh_10 {t : Int → Int} {m p : Int} : (pt_iw t m p 28526 = 1 ∧ pt_wh t m p 10 (Int.toNat 2) = 1) ∨ (pt_iw t m p 28526 ≠ 1 ∧ pt_iw t m p 1870030194 = 1 ∧ pt_wh t m p 10 (Int.toNat 2) = 0) ∨ (pt_iw t m p 28526 ≠ 1 ∧ pt_iw t m p 1870030194 ≠ 1 ∧ pt_wh t m p 10 (Int.toNat 2) = -1) := by
  have a := pt_wh_s (t := t) (m := m) (p := p) (a := 10) (k := 1) (by omega)
  have b := pt_wh_s (t := t) (m := m) (p := p) (a := 10) (k := 0) (by omega)
  have c : pt_wh t m p 10 (Int.toNat 0) = -1 := rfl
  rw [show (10 : Int) + 1 = 11 from rfl, show (1 : Int) + 1 = 2 from rfl, pt_C_11] at a
  rw [show (10 : Int) + 0 = 10 from rfl, show (0 : Int) + 1 = 1 from rfl, pt_C_10] at b
  omega
theorem pt_wh_20 {t : Int → Int} {m p : Int} : (pt_iw t m p 30064 = 1 ∧ pt_wh t m p 20 (Int.toNat 2) = 1) ∨ (pt_iw t m p 30064 ≠ 1 ∧ pt_iw t m p 1818584692 = 1 ∧ pt_wh t m p 20 (Int.toNat 2) = 0) ∨ (pt_iw t m p 30064 ≠ 1 ∧ pt_iw t m p 1818584692 ≠ 1 ∧ pt_wh t m p 20 (Int.toNat 2) = -1) := by
  have a := pt_wh_s (t := t) (m := m) (p := p) (a := 20) (k := 1) (by omega)
  have b := pt_wh_s (t := t) (m := m) (p := p) (a := 20) (k := 0) (by omega)
  have c : pt_wh t m p 20 (Int.toNat 0) = -1 := rfl
  rw [show (20 : Int) + 1 = 21 from rfl, show (1 : Int) + 1 = 2 from rfl, pt_C_21] at a
  rw [show (20 : Int) + 0 = 20 from rfl, show (0 : Int) + 1 = 1 from rfl, pt_C_20] at b
  omega
theorem pt_pp_m {t : Int → Int} {m p : Int} : (pt_pp t m p < 0 ∧ pt_ty t m p ≠ 3 ∧ pt_wh t m p 10 (Int.toNat 2) < 0 ∧ pt_wh t m p 20 (Int.toNat 2) < 0) ∨ (0 ≤ pt_pp t m p ∧ (pt_ty t m p = 3 ∨ pt_ty t m p = 2 ∧ (0 ≤ pt_wh t m p 10 (Int.toNat 2) ∨ 0 ≤ pt_wh t m p 20 (Int.toNat 2)))) := by
  have a := pt_wh_10 (t := t) (m := m) (p := p)
  have b := pt_wh_20 (t := t) (m := m) (p := p)
  have c1 := pt_iw2 (t := t) (m := m) (p := p) (w := 28526)
  have c2 := pt_iw2 (t := t) (m := m) (p := p) (w := 1870030194)
  have c3 := pt_iw2 (t := t) (m := m) (p := p) (w := 30064)
  have c4 := pt_iw2 (t := t) (m := m) (p := p) (w := 1818584692)
  unfold pt_pp pt_wt
  by_cases c : pt_ty t m p = 3
  · have n := pt_nm_b c
    rw [if_pos c]
    omega
  · rw [if_neg c]
    (repeat' split) <;> omega

/-! the words, to the base 256 and to the base 37 -/
def pt_WL : List (List Int) := [[116, 111, 119, 110], [108, 105, 103, 104, 116], [98, 97, 114], [114, 117, 108, 101], [119, 97, 108, 107], [114, 117, 110], [115, 108, 111, 119], [114, 117, 110, 115], [99, 104, 105, 108, 100], [114, 111, 117, 110, 100], [111, 118, 101, 114], [111, 110], [102, 111, 114], [99, 108, 111, 99, 107], [104, 105, 100, 100, 101, 110], [98, 117, 116, 116, 111, 110], [112, 111, 108, 105, 99, 101], [110, 111, 116], [97, 110, 100], [111, 114], [108, 101, 102, 116], [117, 112]]
def pt_ls (L : List Int) (j : Int) : Int := L.getD j.toNat 0
def pt_C (c : Int) : Int := pt_wv 256 0 (pt_ls (pt_WL.getD c.toNat [])) 0 (pt_WL.getD c.toNat []).length
def pt_D (c : Int) : Int := pt_wv 37 96 (pt_ls (pt_WL.getD c.toNat [])) 0 (pt_WL.getD c.toNat []).length
def pt_WD (f : Int → Int) : Prop := ∀ c : Int, 0 ≤ c → c ≤ 21 → f c = pt_D c
theorem pt_WL_l : ∀ c, c < 22 → (pt_WL.getD c []).length ≤ 6 ∧ ∀ i, i < 6 → i < (pt_WL.getD c []).length → 97 ≤ (pt_WL.getD c []).getD i 0 ∧ (pt_WL.getD c []).getD i 0 ≤ 122 := by decide +kernel
theorem pt_ls_l {c : Nat} (hc : c < 22) : ∀ j : Int, 0 ≤ j → j < 0 + ((pt_WL.getD c []).length : Nat) → 97 ≤ pt_ls (pt_WL.getD c []) j ∧ pt_ls (pt_WL.getD c []) j ≤ 122 := fun j h0 h1 => by
  have w := pt_WL_l c hc
  exact w.2 j.toNat (by omega) (by omega)
/-- a word is the c-th by the one base just where it is by the other -/
theorem pt_word {t : Int → Int} {m p c : Int} (hc : 0 ≤ c ∧ c ≤ 21) (h : pt_ty t m p = 2) : pt_w256 t m p = pt_C c ↔ pt_w37 t m p = pt_D c := by
  obtain ⟨a, b, l⟩ := pt_ty_w h
  exact pt_wv_i _ _ (fun j h0 h1 => l j h0 (by omega)) (pt_ls_l (by omega))
theorem pt_D_b {c : Int} (hc : 0 ≤ c ∧ c ≤ 21) : 0 ≤ pt_D c ∧ pt_D c ≤ 3512479453921 := pt_wv_378 (by have := (pt_WL_l c.toNat (by omega)).1; omega) (pt_ls_l (by omega))
theorem pt_w37_b {t : Int → Int} {m p : Int} (h : pt_ty t m p = 2) : 0 ≤ pt_w37 t m p ∧ pt_w37 t m p ≤ 3512479453921 := by
  obtain ⟨a, b, l⟩ := pt_ty_w h
  exact pt_wv_378 (by omega) (fun j h0 h1 => l j h0 (by omega))
theorem pt_cm_f {t : Int → Int} {m p : Int} : 0 ≤ pt_cm (pt_ty t m p) ∧ pt_cm (pt_ty t m p) ≤ 4 ∧ (pt_cm (pt_ty t m p) = 0 ↔ pt_ty t m p = 0) ∧ (pt_cm (pt_ty t m p) = 1 ↔ pt_ty t m p = 2) ∧ (pt_cm (pt_ty t m p) = 2 ↔ pt_ty t m p = 3) ∧ (pt_cm (pt_ty t m p) = 3 ↔ pt_ty t m p = 4) := by
  have b := pt_ty_b (t := t) (n := m) (p := p)
  have b1 := b.1
  have b2 := b.2.1
  generalize pt_ty t m p = x at b1 b2
  clear b
  unfold pt_cm
  have c : x = 0 ∨ x = 1 ∨ x = 2 ∨ x = 3 ∨ x = 4 := by omega
  rcases c with rfl | rfl | rfl | rfl | rfl <;> decide
/-- which of so many words from one on; none -/
def pt_wh (t : Int → Int) (m p a : Int) : Nat → Int
  | 0 => -1
  | k + 1 => if pt_iw t m p (pt_C (a + (k : Int))) = 1 then (k : Int) else pt_wh t m p a k
theorem pt_wh_b {t : Int → Int} {m p a : Int} : ∀ k : Nat, -1 ≤ pt_wh t m p a k ∧ pt_wh t m p a k < (k : Int) ∨ k = 0 ∧ pt_wh t m p a k = -1
  | 0 => Or.inr ⟨rfl, rfl⟩
  | k + 1 => by
    have ih := pt_wh_b (t := t) (m := m) (p := p) (a := a) k
    show -1 ≤ (if pt_iw t m p (pt_C (a + (k : Int))) = 1 then (k : Int) else pt_wh t m p a k) ∧ (if pt_iw t m p (pt_C (a + (k : Int))) = 1 then (k : Int) else pt_wh t m p a k) < ((k + 1 : Nat) : Int) ∨ k + 1 = 0 ∧ _
    refine Or.inl ?_
    split <;> omega
theorem pt_wh_s {t : Int → Int} {m p a k : Int} (h : 0 ≤ k) : pt_iw t m p (pt_C (a + k)) = 1 ∧ pt_wh t m p a (Int.toNat (k + 1)) = k ∨ pt_iw t m p (pt_C (a + k)) ≠ 1 ∧ pt_wh t m p a (Int.toNat (k + 1)) = pt_wh t m p a (Int.toNat k) := by
  obtain ⟨n, rfl⟩ := Int.eq_ofNat_of_zero_le h
  show _ ∧ (if pt_iw t m p (pt_C (a + (n : Int))) = 1 then (n : Int) else pt_wh t m p a n) = (n : Int) ∨ _ ∧ (if pt_iw t m p (pt_C (a + (n : Int))) = 1 then (n : Int) else pt_wh t m p a n) = pt_wh t m p a n
  by_cases c : pt_iw t m p (pt_C (a + (n : Int))) = 1
  · exact Or.inl ⟨c, if_pos c⟩
  · exact Or.inr ⟨c, if_neg c⟩

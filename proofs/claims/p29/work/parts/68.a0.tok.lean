/-! tokens: a tape is a row of signs t and how many they are, n; a token is known by the place at which it begins -/
def pt_bB (c : Int) : Bool := decide (c = 10 ∨ c = 32)
def pt_lB (c : Int) : Bool := decide (97 ≤ c ∧ c ≤ 122)
def pt_dB (c : Int) : Bool := decide (48 ≤ c ∧ c ≤ 57)
theorem pt_bB_t {c : Int} (h : c = 10 ∨ c = 32) : pt_bB c = true := decide_eq_true h
theorem pt_bB_f {c : Int} (h : ¬ (c = 10 ∨ c = 32)) : pt_bB c = false := decide_eq_false h
theorem pt_lB_t {c : Int} (h : 97 ≤ c ∧ c ≤ 122) : pt_lB c = true := decide_eq_true h
theorem pt_lB_f {c : Int} (h : ¬ (97 ≤ c ∧ c ≤ 122)) : pt_lB c = false := decide_eq_false h
theorem pt_dB_t {c : Int} (h : 48 ≤ c ∧ c ≤ 57) : pt_dB c = true := decide_eq_true h
theorem pt_dB_f {c : Int} (h : ¬ (48 ≤ c ∧ c ≤ 57)) : pt_dB c = false := decide_eq_false h
/-- the end of the signs that are so, from p on -/
def pt_run (P : Int → Bool) (t : Int → Int) (n : Int) : Nat → Int → Int
  | 0, p => p
  | k + 1, p => if p < n ∧ P (t p) = true then pt_run P t n k (p + 1) else p
def pt_rn (P : Int → Bool) (t : Int → Int) (n p : Int) : Int := pt_run P t n (Int.toNat (n - p)) p
theorem pt_rn_s {P : Int → Bool} {t : Int → Int} {n p : Int} (h : p < n) (q : P (t p) = true) : pt_rn P t n p = pt_rn P t n (p + 1) := by
  unfold pt_rn
  rw [show Int.toNat (n - p) = Int.toNat (n - (p + 1)) + 1 by omega]
  show (if p < n ∧ P (t p) = true then pt_run P t n (Int.toNat (n - (p + 1))) (p + 1) else p) = _
  rw [if_pos ⟨h, q⟩]
theorem pt_rn_e {P : Int → Bool} {t : Int → Int} {n p : Int} (h : ¬ (p < n ∧ P (t p) = true)) : pt_rn P t n p = p := by
  unfold pt_rn
  cases Int.toNat (n - p) with
  | zero => rfl
  | succ k =>
    show (if p < n ∧ P (t p) = true then pt_run P t n k (p + 1) else p) = p
    rw [if_neg h]
theorem pt_rn_f {P : Int → Bool} {t : Int → Int} {n p : Int} (q : P (t p) = false) : pt_rn P t n p = p := pt_rn_e (fun w => by
  have := w.2
  rw [q] at this
  exact Bool.noConfusion this)
theorem pt_rn_n {P : Int → Bool} {t : Int → Int} {n p : Int} (q : n ≤ p) : pt_rn P t n p = p := pt_rn_e (fun w => by omega)
theorem pt_run_b {P : Int → Bool} {t : Int → Int} {n : Int} : ∀ (k : Nat) (p : Int), p ≤ pt_run P t n k p ∧ (p ≤ n → pt_run P t n k p ≤ n)
  | 0, p => ⟨Int.le_refl p, fun h => h⟩
  | k + 1, p => by
    show p ≤ (if p < n ∧ P (t p) = true then pt_run P t n k (p + 1) else p) ∧ (p ≤ n → (if p < n ∧ P (t p) = true then pt_run P t n k (p + 1) else p) ≤ n)
    by_cases q : p < n ∧ P (t p) = true
    · rw [if_pos q]
      have ih := pt_run_b (P := P) (t := t) (n := n) k (p + 1)
      exact ⟨by omega, fun _ => ih.2 (by omega)⟩
    · rw [if_neg q]
      exact ⟨Int.le_refl p, fun h => h⟩
theorem pt_rn_b {P : Int → Bool} {t : Int → Int} {n p : Int} : p ≤ pt_rn P t n p ∧ (p ≤ n → pt_rn P t n p ≤ n) := pt_run_b _ _
/-- all within are so -/
theorem pt_run_i {P : Int → Bool} {t : Int → Int} {n : Int} : ∀ (k : Nat) (p j : Int), p ≤ j → j < pt_run P t n k p → P (t j) = true
  | 0, p, j, h0, h1 => by
    have h2 : j < p := h1
    omega
  | k + 1, p, j, h0, h1 => by
    have h2 : j < (if p < n ∧ P (t p) = true then pt_run P t n k (p + 1) else p) := h1
    by_cases q : p < n ∧ P (t p) = true
    · rw [if_pos q] at h2
      by_cases e : j = p
      · rw [e]
        exact q.2
      · exact pt_run_i k (p + 1) j (by omega) h2
    · rw [if_neg q] at h2
      omega
theorem pt_rn_i {P : Int → Bool} {t : Int → Int} {n p j : Int} (h0 : p ≤ j) (h1 : j < pt_rn P t n p) : P (t j) = true := pt_run_i _ p j h0 h1
/-- the kinds of a token, as the class counts them: 0 the end, 1 none, 2 a word, 3 a number, 4 a sign -/
def pt_ty (t : Int → Int) (n p : Int) : Int :=
  if n ≤ p then 0
  else if 97 ≤ t p ∧ t p ≤ 122 then (if 8 < pt_rn pt_lB t n p - p then 1 else 2)
  else if 48 ≤ t p ∧ t p ≤ 57 then (if 4 < pt_rn pt_dB t n p - p then 1 else 3)
  else if t p = 40 ∨ t p = 41 ∨ t p = 60 ∨ t p = 61 ∨ t p = 43 ∨ t p = 45 ∨ t p = 42 ∨ t p = 59 then 4 else 1
/-- the place behind a token -/
def pt_nx (t : Int → Int) (n p : Int) : Int :=
  if n ≤ p then p
  else if 97 ≤ t p ∧ t p ≤ 122 then pt_rn pt_lB t n p
  else if 48 ≤ t p ∧ t p ≤ 57 then pt_rn pt_dB t n p
  else p + 1
/-- the place of the token behind it -/
def pt_nt (t : Int → Int) (n p : Int) : Int := pt_rn pt_bB t n (pt_nx t n p)
/-- what signs come to, to a base -/
def pt_wv (b : Int) (s : Int) (t : Int → Int) (p : Int) : Nat → Int
  | 0 => 0
  | k + 1 => b * pt_wv b s t p k + (t (p + (k : Int)) - s)
def pt_w256 (t : Int → Int) (n p : Int) : Int := pt_wv 256 0 t p (Int.toNat (pt_nx t n p - p))
def pt_w37 (t : Int → Int) (n p : Int) : Int := pt_wv 37 96 t p (Int.toNat (pt_nx t n p - p))
def pt_nm (t : Int → Int) (n p : Int) : Int := pt_wv 10 48 t p (Int.toNat (pt_nx t n p - p))
theorem pt_nx_b {t : Int → Int} {n p : Int} (h : p ≤ n) : p ≤ pt_nx t n p ∧ pt_nx t n p ≤ n ∧ (p < n → p < pt_nx t n p) := by
  unfold pt_nx
  by_cases q : n ≤ p
  · rw [if_pos q]
    omega
  · rw [if_neg q]
    by_cases l : 97 ≤ t p ∧ t p ≤ 122
    · rw [if_pos l, pt_rn_s (by omega) (pt_lB_t l)]
      have b := pt_rn_b (P := pt_lB) (t := t) (n := n) (p := p + 1)
      have b2 := b.2 (by omega)
      omega
    · rw [if_neg l]
      by_cases d : 48 ≤ t p ∧ t p ≤ 57
      · rw [if_pos d, pt_rn_s (by omega) (pt_dB_t d)]
        have b := pt_rn_b (P := pt_dB) (t := t) (n := n) (p := p + 1)
        have b2 := b.2 (by omega)
        omega
      · rw [if_neg d]
        omega
theorem pt_nt_b {t : Int → Int} {n p : Int} (h : p ≤ n) : p ≤ pt_nt t n p ∧ pt_nt t n p ≤ n ∧ (p < n → p < pt_nt t n p) := by
  have a := pt_nx_b (t := t) h
  have b := pt_rn_b (P := pt_bB) (t := t) (n := n) (p := pt_nx t n p)
  have b2 := b.2 a.2.1
  unfold pt_nt
  omega
theorem pt_ty_b {t : Int → Int} {n p : Int} : 0 ≤ pt_ty t n p ∧ pt_ty t n p ≤ 4 ∧ (n ≤ p → pt_ty t n p = 0) ∧ (p < n → 1 ≤ pt_ty t n p) := by
  unfold pt_ty
  by_cases q : n ≤ p
  · rw [if_pos q]
    omega
  · rw [if_neg q]
    split
    · split <;> omega
    · split
      · split <;> omega
      · split <;> omega
/-- words of at most 8 letters -/
theorem pt_ty_w {t : Int → Int} {n p : Int} (h : pt_ty t n p = 2) : p < n ∧ pt_nx t n p - p ≤ 8 ∧ (∀ j : Int, p ≤ j → j < pt_nx t n p → 97 ≤ t j ∧ t j ≤ 122) := by
  unfold pt_ty at h
  unfold pt_nx
  by_cases q : n ≤ p
  · rw [if_pos q] at h
    omega
  · rw [if_neg q] at h ⊢
    by_cases l : 97 ≤ t p ∧ t p ≤ 122
    · rw [if_pos l] at h ⊢
      by_cases m : 8 < pt_rn pt_lB t n p - p
      · rw [if_pos m] at h
        omega
      · refine ⟨by omega, by omega, fun j h0 h1 => ?_⟩
        exact of_decide_eq_true (pt_rn_i h0 h1)
    · rw [if_neg l] at h
      by_cases d : 48 ≤ t p ∧ t p ≤ 57
      · rw [if_pos d] at h
        split at h <;> omega
      · rw [if_neg d] at h
        split at h <;> omega
theorem pt_wv_p {t : Int → Int} {p : Int} : ∀ k : Nat, (∀ j : Int, p ≤ j → j < p + k → 97 ≤ t j ∧ t j ≤ 122) → 0 ≤ pt_wv 256 0 t p k ∧ 0 ≤ pt_wv 37 96 t p k
  | 0, _ => ⟨Int.le_refl 0, Int.le_refl 0⟩
  | k + 1, h => by
    have ih := pt_wv_p (t := t) (p := p) k (fun j h0 h1 => h j h0 (by omega))
    have l := h (p + k) (by omega) (by omega)
    show 0 ≤ 256 * pt_wv 256 0 t p k + (t (p + (k : Int)) - 0) ∧ 0 ≤ 37 * pt_wv 37 96 t p k + (t (p + (k : Int)) - 96)
    omega
/-- two words are one to the base 256 just where they are one to the base 37 -/
theorem pt_wv_i {t s : Int → Int} {p q : Int} : ∀ k m : Nat, (∀ j : Int, p ≤ j → j < p + k → 97 ≤ t j ∧ t j ≤ 122) → (∀ j : Int, q ≤ j → j < q + m → 97 ≤ s j ∧ s j ≤ 122) → (pt_wv 256 0 t p k = pt_wv 256 0 s q m ↔ pt_wv 37 96 t p k = pt_wv 37 96 s q m)
  | 0, 0, _, _ => ⟨fun _ => rfl, fun _ => rfl⟩
  | 0, m + 1, _, h2 => by
    have a := pt_wv_p (t := s) (p := q) m (fun j h0 h1 => h2 j h0 (by omega))
    have l := h2 (q + m) (by omega) (by omega)
    show 0 = 256 * pt_wv 256 0 s q m + (s (q + (m : Int)) - 0) ↔ 0 = 37 * pt_wv 37 96 s q m + (s (q + (m : Int)) - 96)
    omega
  | k + 1, 0, h1, _ => by
    have a := pt_wv_p (t := t) (p := p) k (fun j h0 h1' => h1 j h0 (by omega))
    have l := h1 (p + k) (by omega) (by omega)
    show 256 * pt_wv 256 0 t p k + (t (p + (k : Int)) - 0) = 0 ↔ 37 * pt_wv 37 96 t p k + (t (p + (k : Int)) - 96) = 0
    omega
  | k + 1, m + 1, h1, h2 => by
    have ih := pt_wv_i (t := t) (s := s) (p := p) (q := q) k m (fun j h0 h1' => h1 j h0 (by omega)) (fun j h0 h1' => h2 j h0 (by omega))
    have l := h1 (p + k) (by omega) (by omega)
    have l2 := h2 (q + m) (by omega) (by omega)
    show 256 * pt_wv 256 0 t p k + (t (p + (k : Int)) - 0) = 256 * pt_wv 256 0 s q m + (s (q + (m : Int)) - 0) ↔ 37 * pt_wv 37 96 t p k + (t (p + (k : Int)) - 96) = 37 * pt_wv 37 96 s q m + (s (q + (m : Int)) - 96)
    generalize pt_wv 256 0 t p k = A at ih ⊢
    generalize pt_wv 256 0 s q m = B at ih ⊢
    generalize pt_wv 37 96 t p k = C at ih ⊢
    generalize pt_wv 37 96 s q m = D at ih ⊢
    constructor
    · intro e
      have e1 : A = B := by omega
      have e2 := ih.mp e1
      omega
    · intro e
      have e1 : C = D := by omega
      have e2 := ih.mpr e1
      omega

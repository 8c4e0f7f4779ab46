/-! the reference's town being read (row 96 from 340 on, the told ones' bits, the names), as the town A -/
def pt_MR (t : Int → Int) (m : Int) (A r : Int → Int) (tb : Int) (nm : Int → Int) : Prop :=
  (∀ j : Int, 0 ≤ j → j < 280 → r (340 + j) = A j) ∧
  (∀ s : Int, 0 ≤ s → s < 5 → (A (300 + s) = 0 ∨ A (300 + s) = 1) ∧ ov_and (ov_shr tb s) 1 = A (300 + s)) ∧
  (∀ i : Int, 0 ≤ i → i < A 8 → nm i = pt_w37 t m (A (310 + i)) ∧ pt_ty t m (A (310 + i)) = 2) ∧
  (1 ≤ A 0 ∧ A 0 ≤ 6 ∧ 1 ≤ A 1 ∧ A 1 ≤ 9 ∧ 0 ≤ A 8 ∧ A 8 ≤ 4 ∧ 1 ≤ A 9 ∧ A 9 ≤ 1200 ∧ A 6 = A 304 ∧ 0 ≤ tb ∧ tb ≤ 31 ∧ 1 ≤ A 2)
section
variable {t : Int → Int} {m : Int} {A r nm : Int → Int} {tb : Int}
theorem pt_MR_c (K : pt_MR t m A r tb nm) {j : Int} (h : 0 ≤ j ∧ j < 280) : r (340 + j) = A j := K.1 j h.1 h.2
theorem pt_MR_i (K : pt_MR t m A r tb nm) {k : Int} (h : 340 ≤ k ∧ k < 620) : r k = A (k - 340) := by
  have e := K.1 (k - 340) (by omega) (by omega)
  rw [show 340 + (k - 340) = k by omega] at e
  exact e
theorem pt_MR_r (K : pt_MR t m A r tb nm) : 1 ≤ A 0 ∧ A 0 ≤ 6 ∧ 1 ≤ A 1 ∧ A 1 ≤ 9 ∧ 0 ≤ A 8 ∧ A 8 ≤ 4 ∧ 1 ≤ A 9 ∧ A 9 ≤ 1200 ∧ A 6 = A 304 ∧ 0 ≤ tb ∧ tb ≤ 31 ∧ 1 ≤ A 2 := K.2.2.2
theorem pt_MR_t (K : pt_MR t m A r tb nm) {s : Int} (h : 0 ≤ s ∧ s < 5) : (A (300 + s) = 0 ∨ A (300 + s) = 1) ∧ ov_and (ov_shr tb s) 1 = A (300 + s) := K.2.1 s h.1 h.2
theorem pt_MR_n (K : pt_MR t m A r tb nm) {i : Int} (h : 0 ≤ i ∧ i < A 8) : nm i = pt_w37 t m (A (310 + i)) ∧ pt_ty t m (A (310 + i)) = 2 := K.2.2.1 i h.1 h.2
/-- a cell of a light, of a bar, the count of lights: told -/
theorem pt_MR_set (K : pt_MR t m A r tb nm) {j v : Int} (h : 10 ≤ j ∧ j < 280 ∨ j = 7) : pt_MR t m (ov_rs A j v) (ov_rs r (340 + j) v) tb nm := by
  refine ⟨fun i h0 h1 => ?_, fun s h0 h1 => ?_, fun i h0 h1 => ?_, ?_⟩
  · by_cases q : i = j
    · rw [q, ov_rs_eq, ov_rs_eq]
    · rw [ov_rs_ne q, ov_rs_ne (show 340 + i ≠ 340 + j by omega)]
      exact K.1 i h0 h1
  · rw [ov_rs_ne (show 300 + s ≠ j by omega)]
    exact K.2.1 s h0 h1
  · rw [ov_rs_ne (show (8 : Int) ≠ j by omega)] at h1
    rw [ov_rs_ne (show 310 + i ≠ j by omega)]
    exact K.2.2.1 i h0 h1
  · rw [ov_rs_ne (show (0 : Int) ≠ j by omega), ov_rs_ne (show (1 : Int) ≠ j by omega), ov_rs_ne (show (8 : Int) ≠ j by omega), ov_rs_ne (show (9 : Int) ≠ j by omega), ov_rs_ne (show (6 : Int) ≠ j by omega), ov_rs_ne (show (304 : Int) ≠ j by omega), ov_rs_ne (show (2 : Int) ≠ j by omega)]
    exact K.2.2.2
/-- the common round told -/
theorem pt_MR_9 (K : pt_MR t m A r tb nm) {v : Int} (h : 1 ≤ v ∧ v ≤ 1200) : pt_MR t m (ov_rs A 9 v) (ov_rs r 349 v) tb nm := by
  refine ⟨fun i h0 h1 => ?_, fun s h0 h1 => ?_, fun i h0 h1 => ?_, ?_⟩
  · by_cases q : i = 9
    · rw [q, ov_rs_eq]
      exact ov_rs_eq _ _ _
    · rw [ov_rs_ne q, ov_rs_ne (show 340 + i ≠ 349 by omega)]
      exact K.1 i h0 h1
  · rw [ov_rs_ne (show 300 + s ≠ 9 by omega)]
    exact K.2.1 s h0 h1
  · rw [ov_rs_ne (show (8 : Int) ≠ 9 by omega)] at h1
    rw [ov_rs_ne (show 310 + i ≠ 9 by omega)]
    exact K.2.2.1 i h0 h1
  · rw [ov_rs_ne (show (0 : Int) ≠ 9 by omega), ov_rs_ne (show (1 : Int) ≠ 9 by omega), ov_rs_ne (show (8 : Int) ≠ 9 by omega), ov_rs_eq, ov_rs_ne (show (6 : Int) ≠ 9 by omega), ov_rs_ne (show (304 : Int) ≠ 9 by omega), ov_rs_ne (show (2 : Int) ≠ 9 by omega)]
    have q := K.2.2.2
    omega
end
/-- a bit told -/
theorem pt_bit0 : ∀ x : Fin 32, ∀ s : Fin 5, (0 ≤ ov_or ((x.val : Nat) : Int) (ov_shl 1 ((s.val : Nat) : Int)) ∧ ov_or ((x.val : Nat) : Int) (ov_shl 1 ((s.val : Nat) : Int)) ≤ 31) ∧ ∀ w : Fin 5, ov_and (ov_shr (ov_or ((x.val : Nat) : Int) (ov_shl 1 ((s.val : Nat) : Int))) ((w.val : Nat) : Int)) 1 = if w.val = s.val then 1 else ov_and (ov_shr ((x.val : Nat) : Int) ((w.val : Nat) : Int)) 1 := by decide +kernel
theorem pt_bit {x s : Int} (hx : 0 ≤ x ∧ x ≤ 31) (hs : 0 ≤ s ∧ s < 5) : (0 ≤ ov_or x (ov_shl 1 s) ∧ ov_or x (ov_shl 1 s) ≤ 31) ∧ ov_and (ov_shr (ov_or x (ov_shl 1 s)) s) 1 = 1 ∧ ∀ w : Int, 0 ≤ w → w < 5 → w ≠ s → ov_and (ov_shr (ov_or x (ov_shl 1 s)) w) 1 = ov_and (ov_shr x w) 1 := by
  obtain ⟨a, rfl⟩ := Int.eq_ofNat_of_zero_le hx.1
  obtain ⟨b, rfl⟩ := Int.eq_ofNat_of_zero_le hs.1
  have q := pt_bit0 ⟨a, by omega⟩ ⟨b, by omega⟩
  refine ⟨q.1, ?_, fun w h0 h1 hw => ?_⟩
  · exact (q.2 ⟨b, by omega⟩).trans (if_pos rfl)
  · obtain ⟨e, rfl⟩ := Int.eq_ofNat_of_zero_le h0
    exact (q.2 ⟨e, by omega⟩).trans (if_neg (fun y => hw (congrArg (fun n : Nat => (n : Int)) y)))
theorem pt_wh_wt {t : Int → Int} {m p : Int} : pt_wh t m p 10 (Int.toNat 2) = pt_wt t m p := by
  have a := pt_wh_10 (t := t) (m := m) (p := p)
  have d : ¬ (pt_iw t m p 28526 = 1 ∧ pt_iw t m p 1870030194 = 1) := by
    unfold pt_iw
    intro ⟨x, y⟩
    split at x <;> split at y <;> omega
  unfold pt_wt
  (repeat' split) <;> omega

/-! how the tape's signs grow by eight bytes -/
def ov_fdr (w n : Int) (r : Int → Int) : Nat → Int → Int
  | 0 => r
  | j + 1 => if ov_fdn w n j < 1000 ∧ ov_fok (ov_bt w (56 - 8 * (j : Int))) then ov_rs (ov_fdr w n r j) (ov_fdn w n j) (ov_bt w (56 - 8 * (j : Int))) else ov_fdr w n r j
theorem ov_fr_step {w n s : Int} {r : Int → Int} (h0 : 0 ≤ s ∧ s ≤ 56) (h8 : s % 8 = 0) : (ov_fdn w n (Int.toNat ((56 - s) / 8)) < 1000 → ov_fok (ov_bt w s) → ov_fdr w n r (Int.toNat ((56 - (s + (-8))) / 8)) = ov_rs (ov_fdr w n r (Int.toNat ((56 - s) / 8))) (ov_fdn w n (Int.toNat ((56 - s) / 8))) (ov_bt w s)) ∧ (1000 ≤ ov_fdn w n (Int.toNat ((56 - s) / 8)) ∨ ¬ ov_fok (ov_bt w s) → ov_fdr w n r (Int.toNat ((56 - (s + (-8))) / 8)) = ov_fdr w n r (Int.toNat ((56 - s) / 8))) := by
  have e : Int.toNat ((56 - (s + (-8))) / 8) = Int.toNat ((56 - s) / 8) + 1 := by omega
  have e2 : 56 - 8 * ((Int.toNat ((56 - s) / 8) : Nat) : Int) = s := by omega
  rw [e]
  generalize hj : Int.toNat ((56 - s) / 8) = j at e2 ⊢
  constructor
  · intro h1 h2
    show (if _ then _ else _) = _
    rw [e2, if_pos ⟨h1, h2⟩]
  · intro h1
    show (if _ then _ else _) = _
    have hno : ¬ (ov_fdn w n j < 1000 ∧ ov_fok (ov_bt w s)) := fun q => by
      rcases h1 with h1 | h1
      · omega
      · exact h1 q.2
    rw [e2, if_neg hno]

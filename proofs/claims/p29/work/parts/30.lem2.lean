/-! more facts of numbers -/
theorem ov_mulg {a b A L B : Int} (h1 : 0 ≤ a) (h2 : a ≤ A) (h3 : L ≤ b) (h4 : b ≤ B) (h5 : L ≤ 0) (h6 : 0 ≤ B) : A * L ≤ a * b ∧ a * b ≤ A * B := by
  constructor
  · have e1 := Int.mul_le_mul_of_nonneg_left h3 h1
    have e2 : A * L ≤ a * L := Int.mul_le_mul_of_nonpos_right h2 h5
    omega
  · have e1 := Int.mul_le_mul_of_nonneg_left h4 h1
    have e2 := Int.mul_le_mul_of_nonneg_right h2 h6
    omega

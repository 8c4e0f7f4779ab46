/-! facts of numbers that the walks use -/
theorem ov_wq (a : Int) : ov_g a → ov_w a = a := fun g => ov_w_id g
theorem ov_op {x way : Int} (hx : 0 ≤ x ∧ x ≤ 3) (hw : way = 0 ∨ way = 1) : ¬ ov_and (ov_shr x way) 1 = 0 → (way = 0 → 1 ≤ x) ∧ (way = 1 → 2 ≤ x) := by
  have h : x = 0 ∨ x = 1 ∨ x = 2 ∨ x = 3 := by omega
  rcases h with rfl | rfl | rfl | rfl <;> rcases hw with rfl | rfl <;> decide +kernel
theorem ov_xors {a b : Int} (ha : ov_g a) (hb : ov_g b) : ov_xor a b < 0 ↔ ¬ (a < 0 ↔ b < 0) := by
  have e : ∀ x : Int32, decide (x.toInt < 0) = x.toBitVec.msb := fun x => by
    rw [BitVec.msb_eq_toInt]
    rfl
  have h1 := e (Int32.ofInt a ^^^ Int32.ofInt b)
  rw [Int32.toBitVec_xor, BitVec.msb_xor, ← e, ← e, ov_toInt ha, ov_toInt hb] at h1
  unfold ov_xor
  by_cases p : a < 0 <;> by_cases q : b < 0 <;> simp [p, q] at h1 ⊢ <;> omega
theorem ov_mulb {q b A B : Int} (h1 : 0 ≤ q) (h2 : q ≤ A) (h3 : 0 ≤ b) (h4 : b ≤ B) : 0 ≤ q * b ∧ q * b ≤ A * B := ⟨Int.mul_nonneg h1 h3, Int.mul_le_mul h2 h4 h3 (by omega)⟩
theorem ov_mulr {a b A : Int} (h1 : 0 ≤ a) (h2 : a ≤ A) (h3 : -1 ≤ b) : ∀ {B : Int}, 0 ≤ B → b ≤ B → -A ≤ a * b ∧ a * b ≤ A * B := by
  intro B h4 h5
  constructor
  · have := Int.mul_le_mul_of_nonneg_left h3 h1
    omega
  · by_cases hb : 0 ≤ b
    · exact Int.mul_le_mul h2 h5 hb (by omega)
    · have e : b = -1 := by omega
      subst e
      have := Int.mul_nonneg (show 0 ≤ A by omega) h4
      omega
theorem ov_lcs {a b : Int} (ha : ov_gl a) (hb : ov_gl b) : (0 < ov_lcmp a b ↔ b < a) ∧ (ov_lcmp a b < 0 ↔ a < b) ∧ (ov_lcmp a b = 0 ↔ a = b) := by
  have e1 : Int64.ofInt a < Int64.ofInt b ↔ a < b := by rw [Int64.lt_iff_toInt_lt, ov_toIntL ha, ov_toIntL hb]
  have e2 : Int64.ofInt b < Int64.ofInt a ↔ b < a := by rw [Int64.lt_iff_toInt_lt, ov_toIntL ha, ov_toIntL hb]
  have e3 := ov_eq64 ha hb
  unfold ov_lcmp lg_cmp
  repeat' split
  all_goals simp_all <;> omega
theorem ov_tdl {a b : Int} (ha : 0 ≤ a) (hb : 0 < b) : 0 ≤ Int.tdiv a b ∧ Int.tdiv a b ≤ a := by
  rw [Int.tdiv_eq_ediv_of_nonneg ha]
  exact ⟨Int.ediv_nonneg ha (by omega), Int.ediv_le_self _ ha⟩
theorem ov_gld {a b : Int} (ha : ov_g a) : ov_gl (Int.tdiv a b) := by
  have h1 : (Int.tdiv a b).natAbs ≤ a.natAbs := by
    rw [Int.natAbs_tdiv]
    exact Nat.div_le_self _ _
  constructor <;> omega
theorem ov_tmgl {a b : Int} (ha : ov_gl a) (hb : ov_gl b) (hn : b ≠ 0) : ov_gl (Int.tmod a b) ∧ (0 ≤ a → 0 ≤ Int.tmod a b) := by
  have h1 : (Int.tmod a b).natAbs < b.natAbs := by
    rw [Int.natAbs_tmod]
    exact Nat.mod_lt _ (by omega)
  exact ⟨by constructor <;> omega, fun h => Int.tmod_nonneg _ h⟩
theorem ov_tms {a b : Int} (hb : 0 < b) : -b < Int.tmod a b ∧ Int.tmod a b < b ∧ (0 ≤ a → 0 ≤ Int.tmod a b) ∧ (a < 0 → Int.tmod a b ≤ 0) := by
  have h1 : (Int.tmod a b).natAbs < b.natAbs := by
    rw [Int.natAbs_tmod]
    exact Nat.mod_lt _ (by omega)
  refine ⟨by omega, by omega, fun h => Int.tmod_nonneg _ h, fun h => ?_⟩
  have e : Int.tmod (-a) b = -(Int.tmod a b) := Int.neg_tmod ..
  have := Int.tmod_nonneg (a := -a) b (by omega)
  omega

/-! bits of the lights known -/
def ov_kb (kn q : Int) : Int := ov_land (ov_lshr kn q) 1
theorem kb_sh : ∀ n, n < 64 → ((Int32.ofInt ((n : Nat) : Int)).toInt64 &&& 63) = Int64.ofNat n := by decide +kernel
theorem kb_sm : ∀ n, n < 64 → ((Int64.ofNat n).toBitVec.smod 64).toNat = n := by decide +kernel
theorem kb_one : ∀ n, n < 64 → (1#64).getLsbD n = decide (n = 0) := by decide +kernel
theorem kb_lo {K : BitVec 64} : (K &&& 1#64) = if K.getLsbD 0 = true then 1#64 else 0#64 := by
  apply BitVec.eq_of_getLsbD_eq
  intro i hi
  rw [BitVec.getLsbD_and, kb_one i hi]
  by_cases e : i = 0
  · subst e
    cases h : K.getLsbD 0 <;> simp
  · cases h : K.getLsbD 0 <;> simp [e] <;> exact (kb_one i hi).trans (decide_eq_false e)
theorem kb_val {kn : Int} {n : Nat} (hn : n < 54) : ov_kb kn (n : Int) = if (Int64.ofInt kn).toBitVec.getLsbD n = true then 1 else 0 := by
  have e : (Int64.ofInt kn >>> Int64.ofNat n) &&& Int64.ofInt 1 = if (Int64.ofInt kn).toBitVec.getLsbD n = true then 1 else 0 := by
    apply Int64.toBitVec_inj.mp
    have e1 : (Int64.ofInt kn >>> Int64.ofNat n).toBitVec.getLsbD 0 = (Int64.ofInt kn).toBitVec.getLsbD n := by
      rw [Int64.toBitVec_shiftRight, BitVec.sshiftRight_eq', kb_sm n (by omega), BitVec.getLsbD_sshiftRight]
      rw [if_pos (show n + 0 < 64 by omega), Nat.add_zero]
      first | rfl | simp
    rw [Int64.toBitVec_and, show (Int64.ofInt 1).toBitVec = 1#64 from rfl, kb_lo, e1]
    split <;> rfl
  unfold ov_kb ov_land ov_lshr
  rw [Int64.ofInt_toInt, kb_sh n (by omega), e]
  split <;> rfl
theorem kb_01 {kn q : Int} (h0 : 0 ≤ q) (h1 : q < 54) : ov_kb kn q = 0 ∨ ov_kb kn q = 1 := by
  obtain ⟨n, rfl⟩ := Int.eq_ofNat_of_zero_le h0
  rw [kb_val (by omega)]
  split
  · exact Or.inr rfl
  · exact Or.inl rfl
theorem kb_0n : ∀ n, n < 54 → ov_kb 0 ((n : Nat) : Int) = 0 := by decide +kernel
theorem kb_0 {q : Int} (h0 : 0 ≤ q) (h1 : q < 54) : ov_kb 0 q = 0 := by
  obtain ⟨n, rfl⟩ := Int.eq_ofNat_of_zero_le h0
  exact kb_0n n (by omega)
theorem kb_bit : ∀ c, c < 54 → ∀ n, n < 54 → (Int64.ofInt (ov_lshl 1 ((c : Nat) : Int))).toBitVec.getLsbD n = decide (n = c) := by decide +kernel
theorem kb_set {kn c q : Int} (c0 : 0 ≤ c) (c1 : c < 54) (h0 : 0 ≤ q) (h1 : q < 54) : ov_kb (ov_lor kn (ov_lshl 1 c)) q = if q = c then 1 else ov_kb kn q := by
  obtain ⟨n, rfl⟩ := Int.eq_ofNat_of_zero_le h0
  obtain ⟨m, rfl⟩ := Int.eq_ofNat_of_zero_le c0
  rw [kb_val (by omega), kb_val (by omega)]
  have e : (Int64.ofInt (ov_lor kn (ov_lshl 1 (m : Int)))).toBitVec.getLsbD n = ((Int64.ofInt kn).toBitVec.getLsbD n || decide (n = m)) := by
    unfold ov_lor
    rw [Int64.ofInt_toInt, Int64.toBitVec_or, BitVec.getLsbD_or, kb_bit m (by omega) n (by omega)]
  rw [e]
  by_cases q : n = m
  · rw [if_pos (show (n : Int) = (m : Int) by omega), if_pos (by simp [q])]
  · rw [if_neg (show ¬ (n : Int) = (m : Int) by omega)]
    congr 1
    simp [q]

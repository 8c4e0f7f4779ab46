/-! the reference's way to a byte: shifted with its sign, cut to an int -/
theorem ov_and255e (a : Int) : ov_and a 255 = a % 256 := by
  have e : Int32.ofInt 255 = nI (2 ^ 8 - 1) := rfl
  unfold ov_and
  rw [e, pk_and _ 8 (pk_tn (by decide))]
  have h : (Int32.ofInt a).toBitVec.toNat % 2 ^ 8 < 2 ^ 8 := Nat.mod_lt _ (by decide)
  rw [nI_toInt (by omega)]
  have e2 : (Int32.ofInt a).toBitVec.toNat = (a % 4294967296).toNat := by
    show (BitVec.ofInt 32 a).toNat = _
    rw [BitVec.toNat_ofInt]
    rfl
  rw [e2]
  omega
theorem ov_shl57 : ∀ j, j < 57 → ((((Int32.ofInt ((j : Nat) : Int)).toInt64 &&& 63).toBitVec.smod 64).toNat) = j := by decide +kernel
theorem ov_lshre {w : Int} {k : Nat} (hk : k ≤ 56) : ov_lshr w (k : Int) = (Int64.ofInt w).toInt / 2 ^ k := by
  unfold ov_lshr
  show BitVec.toInt (BitVec.sshiftRight' (Int64.ofInt w).toBitVec (((Int32.ofInt (k : Int)).toInt64 &&& 63).toBitVec.smod 64)) = _
  rw [BitVec.sshiftRight', BitVec.toInt_sshiftRight, ov_shl57 k (by omega), Int.shiftRight_eq_div_pow]
  rfl
theorem ov_btm2 (w q : Int) {k : Nat} (hk : k ≤ 56) : ((w + 18446744073709551616 * q) / 2 ^ k) % 256 = (w / 2 ^ k) % 256 := by
  have e1 := ov_btm (w + 18446744073709551616 * q) hk
  have e2 := ov_btm w hk
  rw [← e1, ← e2, Int.add_mul_emod_self_left]
theorem ov_lsbI {w s : Int} (h : 0 ≤ s ∧ s ≤ 56) : ov_and (ov_lshr w s) 255 = ov_bt w s := by
  obtain ⟨k, rfl⟩ : ∃ k : Nat, s = (k : Int) := ⟨s.toNat, by omega⟩
  rw [ov_and255e, ov_lshre (by omega)]
  unfold ov_bt
  rw [Int.toNat_natCast, Int64.toInt_ofInt]
  have e : ∃ q : Int, w.bmod Int64.size = w + 18446744073709551616 * q := by
    refine ⟨(w.bmod Int64.size - w) / 18446744073709551616, ?_⟩
    have := Int.bmod_def w Int64.size
    have hs : ((Int64.size : Nat) : Int) = 18446744073709551616 := rfl
    rw [hs] at this
    split at this <;> omega
  obtain ⟨q, hq⟩ := e
  rw [hq]
  exact ov_btm2 w q (by omega)

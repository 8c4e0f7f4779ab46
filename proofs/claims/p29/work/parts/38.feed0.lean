/-! how the tape's length grows by eight bytes, from the highest on -/
def ov_bt (w s : Int) : Int := (w / 2 ^ s.toNat) % 256
abbrev ov_fok (c : Int) : Prop := c = 10 ∨ (32 ≤ c ∧ c ≤ 126)
def ov_fdn (w n : Int) : Nat → Int
  | 0 => n
  | j + 1 => if ov_fdn w n j < 1000 ∧ ov_fok (ov_bt w (56 - 8 * (j : Int))) then ov_fdn w n j + 1 else ov_fdn w n j
theorem ov_fd_step {w n s : Int} (h0 : 0 ≤ s ∧ s ≤ 56) (h8 : s % 8 = 0) : (ov_fdn w n (Int.toNat ((56 - s) / 8)) < 1000 → ov_fok (ov_bt w s) → ov_fdn w n (Int.toNat ((56 - (s + (-8))) / 8)) = ov_fdn w n (Int.toNat ((56 - s) / 8)) + 1) ∧ (1000 ≤ ov_fdn w n (Int.toNat ((56 - s) / 8)) ∨ ¬ ov_fok (ov_bt w s) → ov_fdn w n (Int.toNat ((56 - (s + (-8))) / 8)) = ov_fdn w n (Int.toNat ((56 - s) / 8))) := by
  have e : Int.toNat ((56 - (s + (-8))) / 8) = Int.toNat ((56 - s) / 8) + 1 := by omega
  have e2 : 56 - 8 * ((Int.toNat ((56 - s) / 8) : Nat) : Int) = s := by omega
  rw [e]
  generalize hj : Int.toNat ((56 - s) / 8) = j at e2 ⊢
  constructor
  · intro h1 h2
    show (if _ then _ else _) = _
    rw [e2, if_pos ⟨h1, h2⟩]
  · intro h1
    show (if _ then _ else _) = _
    have hno : ¬ (ov_fdn w n j < 1000 ∧ ov_fok (ov_bt w s)) := fun q => by
      rcases h1 with h1 | h1
      · omega
      · exact h1 q.2
    rw [e2, if_neg hno]
theorem ov_bt_rng (w s : Int) : 0 ≤ ov_bt w s ∧ ov_bt w s ≤ 255 := by
  unfold ov_bt
  omega
theorem ov_sh57 : ∀ j, j < 57 → ((Int32.ofInt ((j : Nat) : Int)).toInt64.toUInt64 &&& Int64.toUInt64 63) = UInt64.ofNat j := by decide +kernel
theorem ov_btm (w : Int) {k : Nat} (hk : k ≤ 56) : ((w % 18446744073709551616) / 2 ^ k) % 256 = (w / 2 ^ k) % 256 := by
  have h1 : w = 18446744073709551616 * (w / 18446744073709551616) + w % 18446744073709551616 := (Int.mul_ediv_add_emod _ _).symm
  have h2 : (18446744073709551616 : Int) = 2 ^ k * (256 * 2 ^ (56 - k)) := by
    have : (2 : Int) ^ k * 2 ^ (56 - k) = 2 ^ 56 := by
      rw [← Int.pow_add]
      congr 1
      omega
    calc (18446744073709551616 : Int) = 2 ^ 56 * 256 := by decide +kernel
      _ = (2 ^ k * 2 ^ (56 - k)) * 256 := by rw [this]
      _ = _ := by rw [Int.mul_assoc, Int.mul_comm (2 ^ (56 - k)) 256]
  have h3 : (2 : Int) ^ k ≠ 0 := by
    have : (0 : Int) < 2 ^ k := Int.pow_pos (by decide)
    omega
  generalize hr : w % 18446744073709551616 = r at h1 ⊢
  generalize w / 18446744073709551616 = q at h1
  rw [h2] at h1
  rw [h1, Int.mul_assoc, Int.add_comm, Int.add_mul_ediv_left _ _ h3, Int.mul_assoc, Int.add_mul_emod_self_left]
theorem ov_lub {w : Int} {k : Nat} (hk : k ≤ 56) : ov_land (ov_lushr w (k : Int)) 255 = ov_bt w (k : Int) := by
  unfold ov_land ov_lushr ov_bt
  rw [Int64.ofInt_toInt, ov_sh57 k (by omega)]
  have e : (((Int64.ofInt w).toUInt64 >>> UInt64.ofNat k).toInt64 &&& Int64.ofInt 255).toBitVec.toNat = ((w % 18446744073709551616) / 2 ^ k % 256).toNat := by
    have e1 : (UInt64.ofNat k).toNat % 64 = k := by
      rw [UInt64.toNat_ofNat']
      omega
    show (((BitVec.ofInt 64 w) >>> ((UInt64.ofNat k).toBitVec % 64)) &&& 255#64).toNat = _
    rw [BitVec.toNat_and]
    simp only [BitVec.ushiftRight_eq', BitVec.toNat_ushiftRight, BitVec.toNat_umod, BitVec.toNat_ofInt]
    have e2 : (UInt64.ofNat k).toBitVec.toNat % 64 = k := e1
    show _ = _
    rw [show (64 : BitVec 64).toNat = 64 from rfl, e2, show (255#64 : BitVec 64).toNat = 2 ^ 8 - 1 from rfl, Nat.and_two_pow_sub_one_eq_mod, Nat.shiftRight_eq_div_pow]
    have h0 : 0 ≤ w % 18446744073709551616 := Int.emod_nonneg _ (by decide)
    have e3 : ((2 ^ 64 : Nat) : Int) = 18446744073709551616 := by decide +kernel
    rw [e3]
    generalize w % 18446744073709551616 = r at h0 ⊢
    obtain ⟨m, rfl⟩ : ∃ m : Nat, r = (m : Int) := ⟨r.toNat, by omega⟩
    have e4 : ((m : Int) / 2 ^ k % 256) = ((m / 2 ^ k % 256 : Nat) : Int) := by
      simp
    rw [e4, Int.toNat_natCast, Int.toNat_natCast]
  have hlt : (((Int64.ofInt w).toUInt64 >>> UInt64.ofNat k).toInt64 &&& Int64.ofInt 255).toBitVec.toNat < 256 := by
    rw [e]
    omega
  have e5 : (((Int64.ofInt w).toUInt64 >>> UInt64.ofNat k).toInt64 &&& Int64.ofInt 255).toInt = ((((Int64.ofInt w).toUInt64 >>> UInt64.ofNat k).toInt64 &&& Int64.ofInt 255).toBitVec.toNat : Int) := by
    show BitVec.toInt _ = _
    rw [BitVec.toInt_eq_toNat_of_lt (by omega)]
  rw [e5, e, Int.toNat_of_nonneg (by omega), Int.toNat_natCast]
  exact ov_btm w hk
theorem ov_i2c_id {a : Int} (h : 0 ≤ a ∧ a ≤ 65535) : ov_i2c a = a := by
  have e : Int32.ofInt a = nI a.toNat := by
    show _ = Int32.ofNat _
    rw [← Int32.ofInt_eq_ofNat, Int.toNat_of_nonneg h.1]
  unfold ov_i2c
  rw [e, pk_char, pk_tn (by omega), nI_toInt (by omega)]
  omega
theorem ov_lubI {w s : Int} (h : 0 ≤ s ∧ s ≤ 56) : ov_land (ov_lushr w s) 255 = ov_bt w s := by
  have := ov_lub (w := w) (k := s.toNat) (by omega)
  rwa [Int.toNat_of_nonneg h.1] at this

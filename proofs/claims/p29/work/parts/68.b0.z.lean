/-! small rows of the pure words -/
theorem pt_pp_b {t : Int → Int} {m p : Int} : -1 ≤ pt_pp t m p ∧ pt_pp t m p ≤ 10015 := by
  unfold pt_pp
  by_cases h : pt_ty t m p = 3
  · have b := pt_nm_b h
    rw [if_pos h]
    omega
  · rw [if_neg h]
    repeat' split
    all_goals omega
/-- at the end no word and no sign is met -/
theorem pt_end {t : Int → Int} {m p : Int} (h : m ≤ p) : (∀ c : Int, pt_is t m p c = 0) ∧ ∀ w : Int, pt_iw t m p w = 0 := by
  have e := (pt_nd (t := t) h).1
  refine ⟨fun c => ?_, fun w => ?_⟩
  · unfold pt_is
    rw [if_neg (fun q => by omega)]
  · unfold pt_iw
    rw [if_neg (fun q => by omega)]
/-! divisors -/
theorem pt_gcd_s {x y : Int} (hx : 0 ≤ x) (hy : 0 < y) : Nat.gcd y.toNat (Int.tmod x y).toNat = Nat.gcd x.toNat y.toNat := by
  rw [Int.tmod_eq_emod_of_nonneg hx]
  obtain ⟨a, rfl⟩ : ∃ a : Nat, x = (a : Int) := ⟨x.toNat, by omega⟩
  obtain ⟨b, rfl⟩ : ∃ b : Nat, y = (b : Int) := ⟨y.toNat, by omega⟩
  have e : ((a : Int) % (b : Int)).toNat = a % b := by
    rw [← Int.natCast_emod, Int.toNat_natCast]
  rw [e, Int.toNat_natCast, Int.toNat_natCast, Nat.gcd_comm b, ← Nat.gcd_rec b a, Nat.gcd_comm]
theorem pt_gcd_e {x y : Int} {g : Nat} (hx : 0 ≤ x) (hy : y = 0) (h : Nat.gcd x.toNat y.toNat = g) : x = (g : Int) := by
  subst hy
  rw [show (0 : Int).toNat = 0 from rfl, Nat.gcd_zero_right] at h
  omega
theorem pt_gcd_b {a b : Int} (h : 1 ≤ a ∧ a ≤ 1200 ∧ 1 ≤ b ∧ b ≤ 60) : 1 ≤ ((Nat.gcd a.toNat b.toNat : Nat) : Int) ∧ ((Nat.gcd a.toNat b.toNat : Nat) : Int) ≤ 60 := by
  have p := Nat.gcd_pos_of_pos_right a.toNat (show 0 < b.toNat by omega)
  have q := Nat.gcd_le_right (n := b.toNat) a.toNat (by omega)
  omega
theorem pt_lc_b {a b : Int} (h : 1 ≤ a ∧ a ≤ 1200 ∧ 1 ≤ b ∧ b ≤ 60) : 1 ≤ pt_lc a b ∧ pt_lc a b ≤ 72000 := by
  unfold pt_lc
  have g := pt_gcd_b h
  have d := Nat.gcd_dvd_left a.toNat b.toNat
  generalize Nat.gcd a.toNat b.toNat = G at g d
  obtain ⟨k, hk⟩ := d
  rw [Int.tdiv_eq_ediv_of_nonneg (by omega)]
  have e : a / (G : Int) = (k : Int) := by
    have e1 : a = (G : Int) * (k : Int) := by
      have := congrArg (fun x : Nat => (x : Int)) hk
      simp only [Int.natCast_mul] at this
      omega
    rw [e1]
    exact Int.mul_ediv_cancel_left _ (by omega)
  rw [e]
  have kp : 1 ≤ (k : Int) := by
    by_cases z : k = 0
    · subst z
      simp at hk
      omega
    · omega
  have kl : (k : Int) ≤ 1200 := by
    have := Nat.le_mul_of_pos_left k (show 0 < G by omega)
    omega
  have m1 := Int.mul_le_mul kl h.2.2.2 (by omega) (by omega)
  have m2 := Int.mul_le_mul kp h.2.2.1 (by decide) (by omega)
  omega

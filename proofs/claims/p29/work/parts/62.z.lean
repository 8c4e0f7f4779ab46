/-! small facts: a quotient, the second behind a street -/
theorem ov_tdt {a b : Int} (hb : 0 < b) : (0 ≤ a → 0 ≤ Int.tdiv a b ∧ Int.tdiv a b ≤ a) ∧ (a < 0 → a ≤ Int.tdiv a b ∧ Int.tdiv a b ≤ 0) := by
  refine ⟨fun ha => ov_tdl ha hb, fun ha => ?_⟩
  have h := ov_tdl (a := -a) (b := b) (by omega) hb
  rw [Int.neg_tdiv] at h
  omega
theorem ov_nxa {f : Int → Int} {L tm w T : Int} (hT : T = (L + tm) % f 9) : (L + ((tm + w) + f 2)) % f 9 = ov_nx f T w := by
  unfold ov_nx
  rw [hT, Int.add_assoc ((L + tm) % f 9), Int.emod_add_emod]
  congr 1
  omega

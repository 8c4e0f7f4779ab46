/-! how long one waits at a light of the class: kind, round, start, span, way, second; who comes later goes no sooner -/
def ov_since (rd st t : Int) : Int := if 0 < rd then (t - st) % rd else 0
def ov_wtv (kd rd st sp way t : Int) : Int := if kd = 2 then (if way = 0 then st else 0) else if kd = 0 ∨ kd = 1 then (if ov_since rd st t < sp then (if way = 0 then 0 else sp - ov_since rd st t) else (if way = 0 then rd - ov_since rd st t else 0)) else 0
theorem ov_wtv_mono {kd rd st sp way t t2 : Int} (hr : 0 ≤ rd) (h : t ≤ t2) : t + ov_wtv kd rd st sp way t ≤ t2 + ov_wtv kd rd st sp way t2 := by
  unfold ov_wtv ov_since
  by_cases hp : 0 < rd
  · rw [if_pos hp, if_pos hp]
    have e1 := Int.mul_ediv_add_emod (t - st) rd
    have e2 := Int.mul_ediv_add_emod (t2 - st) rd
    have r1 := Int.emod_nonneg (t - st) (show rd ≠ 0 by omega)
    have r2 := Int.emod_nonneg (t2 - st) (show rd ≠ 0 by omega)
    have s1 := Int.emod_lt_of_pos (t - st) hp
    have s2 := Int.emod_lt_of_pos (t2 - st) hp
    have q : (t - st) / rd ≤ (t2 - st) / rd := Int.ediv_le_ediv hp (by omega)
    have m : (t - st) / rd = (t2 - st) / rd ∨ rd * ((t - st) / rd) + rd ≤ rd * ((t2 - st) / rd) := by
      by_cases he : (t - st) / rd = (t2 - st) / rd
      · exact Or.inl he
      · have := Int.mul_le_mul_of_nonneg_left (show (t - st) / rd + 1 ≤ (t2 - st) / rd by omega) hr
        rw [Int.mul_add, Int.mul_one] at this
        exact Or.inr this
    have m2 : rd * ((t - st) / rd) = rd * ((t2 - st) / rd) ∨ rd * ((t - st) / rd) + rd ≤ rd * ((t2 - st) / rd) := by
      rcases m with m | m
      · exact Or.inl (by rw [m])
      · exact Or.inr m
    generalize rd * ((t - st) / rd) = P at e1 m2
    generalize rd * ((t2 - st) / rd) = P2 at e2 m2
    generalize (t - st) % rd = a at e1 r1 s1 ⊢
    generalize (t2 - st) % rd = b at e2 r2 s2 ⊢
    repeat' split
    all_goals omega
  · rw [if_neg hp, if_neg hp]
    repeat' split
    all_goals omega
theorem ov_wtv_rng {kd rd st sp way t : Int} (hr : 0 ≤ rd ∧ rd ≤ 60) (hs : 0 ≤ st ∧ st ≤ 59) (hp : 0 ≤ sp ∧ sp ≤ 60) : 0 ≤ ov_wtv kd rd st sp way t ∧ ov_wtv kd rd st sp way t ≤ 60 := by
  have h : 0 ≤ ov_since rd st t ∧ (0 < rd → ov_since rd st t < rd) ∧ (rd = 0 → ov_since rd st t = 0) := by
    unfold ov_since
    by_cases hq : 0 < rd
    · rw [if_pos hq]
      exact ⟨Int.emod_nonneg _ (by omega), fun _ => Int.emod_lt_of_pos _ hq, fun e => by omega⟩
    · rw [if_neg hq]
      exact ⟨by omega, fun e => by omega, fun _ => rfl⟩
  unfold ov_wtv
  generalize ov_since rd st t = s at h
  repeat' split
  all_goals omega

/-! facts that the reference's walks use -/
/-- lights of the town in use: a light has a round -/
def ov_WT (f : Int → Int) : Prop := ∀ c : Int, 0 ≤ c → c ≤ 53 → 0 < f (10 + 4 * c) → 1 ≤ f (10 + 4 * c + 1)
theorem ov_WT_at {f : Int → Int} (W : ov_WT f) {c : Int} (hc : 0 ≤ c ∧ c ≤ 53) : 0 < f (10 + 4 * c) → 1 ≤ f (10 + 4 * c + 1) := W c hc.1 hc.2
theorem ov_tmv {x y : Int} (hx : 0 ≤ x) (hy : 0 < y) : 0 ≤ Int.tmod x y ∧ Int.tmod x y < y ∧ Int.tmod x y ≤ x ∧ (x < y → Int.tmod x y = x) := by
  rw [Int.tmod_eq_emod_of_nonneg hx]
  refine ⟨Int.emod_nonneg _ (by omega), Int.emod_lt_of_pos _ hy, ?_, fun q => Int.emod_eq_of_lt hx q⟩
  by_cases q : x < y
  · rw [Int.emod_eq_of_lt hx q]
    exact Int.le_refl _
  · have := Int.emod_lt_of_pos x hy
    omega
/-- a second's place in a round -/
def ov_ph (s o rd : Int) : Int := (s - o) % rd
theorem ov_ph_rng {s o rd : Int} (hr : 0 < rd) : 0 ≤ ov_ph s o rd ∧ ov_ph s o rd < rd := ⟨Int.emod_nonneg _ (by omega), Int.emod_lt_of_pos _ hr⟩
theorem ov_ph_tm {a rd : Int} (hr : 0 < rd) : Int.tmod (Int.tmod a rd + rd) rd = a % rd := by
  have h1 := ov_tms (a := a) hr
  rw [Int.tmod_eq_emod_of_nonneg (by omega), Int.add_emod_right]
  by_cases p : 0 ≤ a
  · rw [Int.tmod_eq_emod_of_nonneg p, Int.emod_emod]
  · have e : a = rd * Int.tdiv a rd + Int.tmod a rd := (Int.mul_tdiv_add_tmod a rd).symm
    conv => rhs; rw [e]
    rw [Int.mul_add_emod_self_left]
theorem ov_ph_add {s o rd : Int} (hr : 0 < rd) (n : Int) (hn : 0 ≤ n) : (ov_ph s o rd + n < rd → ov_ph (s + n) o rd = ov_ph s o rd + n) ∧ (ov_ph s o rd + n = rd → ov_ph (s + n) o rd = 0) := by
  have h := ov_ph_rng (s := s) (o := o) hr
  have e : ov_ph (s + n) o rd = (ov_ph s o rd + n) % rd := by
    unfold ov_ph
    rw [Int.emod_add_emod]
    congr 1
    omega
  constructor
  · intro q
    rw [e, Int.emod_eq_of_lt (by omega) q]
  · intro q
    rw [e, q, Int.emod_self]
/-- how long one waits at a corner: the reference's wait as a function -/
def ov_wm (f : Int → Int) (c way s : Int) : Int :=
  if f (10 + 4 * c) = 3 then (if way = 0 then f (10 + 4 * c + 2) else 0)
  else if f (10 + 4 * c) = 1 ∨ f (10 + 4 * c) = 2 then
    (if ov_ph s (f (10 + 4 * c + 2)) (f (10 + 4 * c + 1)) < f (10 + 4 * c + 3) then (if way = 0 then 0 else f (10 + 4 * c + 3) - ov_ph s (f (10 + 4 * c + 2)) (f (10 + 4 * c + 1)))
     else (if way = 0 then f (10 + 4 * c + 1) - ov_ph s (f (10 + 4 * c + 2)) (f (10 + 4 * c + 1)) else 0))
  else 0
theorem ov_wm_sp (f : Int → Int) (c way s : Int) :
    (f (10 + 4 * c) = 3 → way = 0 → ov_wm f c way s = f (10 + 4 * c + 2)) ∧ (f (10 + 4 * c) = 3 → ¬ way = 0 → ov_wm f c way s = 0) ∧
    (¬ f (10 + 4 * c) = 3 → ¬ (f (10 + 4 * c) = 1 ∨ f (10 + 4 * c) = 2) → ov_wm f c way s = 0) ∧
    (f (10 + 4 * c) = 1 ∨ f (10 + 4 * c) = 2 → ov_ph s (f (10 + 4 * c + 2)) (f (10 + 4 * c + 1)) < f (10 + 4 * c + 3) → way = 0 → ov_wm f c way s = 0) ∧
    (f (10 + 4 * c) = 1 ∨ f (10 + 4 * c) = 2 → ov_ph s (f (10 + 4 * c + 2)) (f (10 + 4 * c + 1)) < f (10 + 4 * c + 3) → ¬ way = 0 → ov_wm f c way s = f (10 + 4 * c + 3) - ov_ph s (f (10 + 4 * c + 2)) (f (10 + 4 * c + 1))) ∧
    (f (10 + 4 * c) = 1 ∨ f (10 + 4 * c) = 2 → ¬ ov_ph s (f (10 + 4 * c + 2)) (f (10 + 4 * c + 1)) < f (10 + 4 * c + 3) → way = 0 → ov_wm f c way s = f (10 + 4 * c + 1) - ov_ph s (f (10 + 4 * c + 2)) (f (10 + 4 * c + 1))) ∧
    (f (10 + 4 * c) = 1 ∨ f (10 + 4 * c) = 2 → ¬ ov_ph s (f (10 + 4 * c + 2)) (f (10 + 4 * c + 1)) < f (10 + 4 * c + 3) → ¬ way = 0 → ov_wm f c way s = 0) := by
  unfold ov_wm
  refine ⟨fun a b => ?_, fun a b => ?_, fun a b => ?_, fun a b c' => ?_, fun a b c' => ?_, fun a b c' => ?_, fun a b c' => ?_⟩
  · rw [if_pos a, if_pos b]
  · rw [if_pos a, if_neg b]
  · rw [if_neg a, if_neg b]
  · rw [if_neg (by omega), if_pos a, if_pos b, if_pos c']
  · rw [if_neg (by omega), if_pos a, if_pos b, if_neg c']
  · rw [if_neg (by omega), if_pos a, if_neg b, if_pos c']
  · rw [if_neg (by omega), if_pos a, if_neg b, if_neg c']

/-! facts that the reference's walks use -/
/-- lights of the town in use: a light has a round; a timed light's round divides the common round -/
def ov_WT (f : Int → Int) : Prop := ∀ c : Int, 0 ≤ c → c ≤ 53 → 0 < f (10 + 4 * c) → 1 ≤ f (10 + 4 * c + 1) ∧ (f (10 + 4 * c) ≤ 2 → f 9 % f (10 + 4 * c + 1) = 0)
theorem ov_WT_at {f : Int → Int} (W : ov_WT f) {c : Int} (hc : 0 ≤ c ∧ c ≤ 53) : 0 < f (10 + 4 * c) → 1 ≤ f (10 + 4 * c + 1) := fun q => (W c hc.1 hc.2 q).1
theorem ov_WT_dv {f : Int → Int} (W : ov_WT f) {c : Int} (hc : 0 ≤ c ∧ c ≤ 53) (h0 : 0 < f (10 + 4 * c)) (h2 : f (10 + 4 * c) ≤ 2) : f 9 % f (10 + 4 * c + 1) = 0 := (W c hc.1 hc.2 h0).2 h2
/-- what divides a divisor and a rest divides the whole -/
theorem ov_eucl {x y q : Int} (hx : 0 ≤ x) (h1 : y % q = 0) (h2 : Int.tmod x y % q = 0) : x % q = 0 := by
  rw [Int.tmod_eq_emod_of_nonneg hx] at h2
  have e := Int.mul_ediv_add_emod x y
  rw [← e]
  exact Int.emod_eq_zero_of_dvd (Int.dvd_add (Int.dvd_trans (Int.dvd_of_emod_eq_zero h1) (Int.dvd_mul_right y _)) (Int.dvd_of_emod_eq_zero h2))
theorem ov_lcmd {a b g : Int} (hg : 0 < g) (h1 : a % g = 0) (h2 : b % g = 0) : (Int.tdiv a g * b) % a = 0 ∧ (Int.tdiv a g * b) % b = 0 := by
  obtain ⟨k, hk⟩ := Int.dvd_of_emod_eq_zero h2
  obtain ⟨m, hm⟩ := Int.dvd_of_emod_eq_zero h1
  have e : Int.tdiv a g = m := by
    rw [hm]
    exact Int.mul_tdiv_cancel_left m (by omega)
  rw [e]
  constructor
  · rw [show m * b = a * k by rw [hk, hm, ← Int.mul_assoc, Int.mul_comm m g]]
    exact Int.emod_eq_zero_of_dvd (Int.dvd_mul_right a k)
  · exact Int.emod_eq_zero_of_dvd (Int.dvd_mul_left m b)
theorem ov_tmv {x y : Int} (hx : 0 ≤ x) (hy : 0 < y) : 0 ≤ Int.tmod x y ∧ Int.tmod x y < y ∧ Int.tmod x y ≤ x ∧ (x < y → Int.tmod x y = x) := by
  rw [Int.tmod_eq_emod_of_nonneg hx]
  refine ⟨Int.emod_nonneg _ (by omega), Int.emod_lt_of_pos _ hy, ?_, fun q => Int.emod_eq_of_lt hx q⟩
  by_cases q : x < y
  · rw [Int.emod_eq_of_lt hx q]
    exact Int.le_refl _
  · have := Int.emod_lt_of_pos x hy
    omega
/-- a second's place in a round -/
def ov_ph (s o rd : Int) : Int := (s - o) % rd
theorem ov_ph_rng {s o rd : Int} (hr : 0 < rd) : 0 ≤ ov_ph s o rd ∧ ov_ph s o rd < rd := ⟨Int.emod_nonneg _ (by omega), Int.emod_lt_of_pos _ hr⟩
theorem ov_ph_tm {a rd : Int} (hr : 0 < rd) : Int.tmod (Int.tmod a rd + rd) rd = a % rd := by
  have h1 := ov_tms (a := a) hr
  rw [Int.tmod_eq_emod_of_nonneg (by omega), Int.add_emod_right]
  by_cases p : 0 ≤ a
  · rw [Int.tmod_eq_emod_of_nonneg p, Int.emod_emod]
  · have e : a = rd * Int.tdiv a rd + Int.tmod a rd := (Int.mul_tdiv_add_tmod a rd).symm
    conv => rhs; rw [e]
    rw [Int.mul_add_emod_self_left]
theorem ov_ph_add {s o rd : Int} (hr : 0 < rd) (n : Int) (hn : 0 ≤ n) : (ov_ph s o rd + n < rd → ov_ph (s + n) o rd = ov_ph s o rd + n) ∧ (ov_ph s o rd + n = rd → ov_ph (s + n) o rd = 0) := by
  have h := ov_ph_rng (s := s) (o := o) hr
  have e : ov_ph (s + n) o rd = (ov_ph s o rd + n) % rd := by
    unfold ov_ph
    rw [Int.emod_add_emod]
    congr 1
    omega
  constructor
  · intro q
    rw [e, Int.emod_eq_of_lt (by omega) q]
  · intro q
    rw [e, q, Int.emod_self]
/-- how long one waits at a corner: the reference's wait as a function -/
def ov_wm (f : Int → Int) (c way s : Int) : Int :=
  if f (10 + 4 * c) = 3 then (if way = 0 then f (10 + 4 * c + 2) else 0)
  else if f (10 + 4 * c) = 1 ∨ f (10 + 4 * c) = 2 then
    (if ov_ph s (f (10 + 4 * c + 2)) (f (10 + 4 * c + 1)) < f (10 + 4 * c + 3) then (if way = 0 then 0 else f (10 + 4 * c + 3) - ov_ph s (f (10 + 4 * c + 2)) (f (10 + 4 * c + 1)))
     else (if way = 0 then f (10 + 4 * c + 1) - ov_ph s (f (10 + 4 * c + 2)) (f (10 + 4 * c + 1)) else 0))
  else 0
theorem ov_wm_sp (f : Int → Int) (c way s : Int) :
    (f (10 + 4 * c) = 3 → way = 0 → ov_wm f c way s = f (10 + 4 * c + 2)) ∧ (f (10 + 4 * c) = 3 → ¬ way = 0 → ov_wm f c way s = 0) ∧
    (¬ f (10 + 4 * c) = 3 → ¬ (f (10 + 4 * c) = 1 ∨ f (10 + 4 * c) = 2) → ov_wm f c way s = 0) ∧
    (f (10 + 4 * c) = 1 ∨ f (10 + 4 * c) = 2 → ov_ph s (f (10 + 4 * c + 2)) (f (10 + 4 * c + 1)) < f (10 + 4 * c + 3) → way = 0 → ov_wm f c way s = 0) ∧
    (f (10 + 4 * c) = 1 ∨ f (10 + 4 * c) = 2 → ov_ph s (f (10 + 4 * c + 2)) (f (10 + 4 * c + 1)) < f (10 + 4 * c + 3) → ¬ way = 0 → ov_wm f c way s = f (10 + 4 * c + 3) - ov_ph s (f (10 + 4 * c + 2)) (f (10 + 4 * c + 1))) ∧
    (f (10 + 4 * c) = 1 ∨ f (10 + 4 * c) = 2 → ¬ ov_ph s (f (10 + 4 * c + 2)) (f (10 + 4 * c + 1)) < f (10 + 4 * c + 3) → way = 0 → ov_wm f c way s = f (10 + 4 * c + 1) - ov_ph s (f (10 + 4 * c + 2)) (f (10 + 4 * c + 1))) ∧
    (f (10 + 4 * c) = 1 ∨ f (10 + 4 * c) = 2 → ¬ ov_ph s (f (10 + 4 * c + 2)) (f (10 + 4 * c + 1)) < f (10 + 4 * c + 3) → ¬ way = 0 → ov_wm f c way s = 0) := by
  unfold ov_wm
  refine ⟨fun a b => ?_, fun a b => ?_, fun a b => ?_, fun a b c' => ?_, fun a b c' => ?_, fun a b c' => ?_, fun a b c' => ?_⟩
  · rw [if_pos a, if_pos b]
  · rw [if_pos a, if_neg b]
  · rw [if_neg a, if_neg b]
  · rw [if_neg (by omega), if_pos a, if_pos b, if_pos c']
  · rw [if_neg (by omega), if_pos a, if_pos b, if_neg c']
  · rw [if_neg (by omega), if_pos a, if_neg b, if_pos c']
  · rw [if_neg (by omega), if_pos a, if_neg b, if_neg c']
theorem ov_up_j {h : ov_H} {a k x j : Int} (hj : j ≠ k) : ov_up h a k x a j = h a j := by
  unfold ov_up
  rw [if_neg (fun q => hj q.2)]
/-- whether one can go a way from a corner: 1 or 0 -/
def ov_cgi (f : Int → Int) (x y way : Int) : Int :=
  if ((way = 0 → x < f 0 - 1) ∧ (¬ way = 0 → y < f 1 - 1)) ∧ ¬ ov_and (ov_shr (f (226 + 6 * y + x)) way) 1 = 1 ∧
     ((f (10 + 4 * (6 * y + x)) = 1 ∨ f (10 + 4 * (6 * y + x)) = 2) → (way = 0 → 0 < f (10 + 4 * (6 * y + x) + 3)) ∧ (¬ way = 0 → f (10 + 4 * (6 * y + x) + 3) < f (10 + 4 * (6 * y + x) + 1))) then 1 else 0
theorem ov_cgi_1 {f : Int → Int} {x y way : Int} (h1 : ((way = 0 → x < f 0 - 1) ∧ (¬ way = 0 → y < f 1 - 1))) (h2 : ¬ ov_and (ov_shr (f (226 + 6 * y + x)) way) 1 = 1) (h3 : ((f (10 + 4 * (6 * y + x)) = 1 ∨ f (10 + 4 * (6 * y + x)) = 2) → (way = 0 → 0 < f (10 + 4 * (6 * y + x) + 3)) ∧ (¬ way = 0 → f (10 + 4 * (6 * y + x) + 3) < f (10 + 4 * (6 * y + x) + 1)))) : ov_cgi f x y way = 1 := by
  unfold ov_cgi
  rw [if_pos ⟨h1, h2, h3⟩]
theorem ov_cgi_0 {f : Int → Int} {x y way : Int} (hq : ¬ (((way = 0 → x < f 0 - 1) ∧ (¬ way = 0 → y < f 1 - 1)) ∧ ¬ ov_and (ov_shr (f (226 + 6 * y + x)) way) 1 = 1 ∧
     ((f (10 + 4 * (6 * y + x)) = 1 ∨ f (10 + 4 * (6 * y + x)) = 2) → (way = 0 → 0 < f (10 + 4 * (6 * y + x) + 3)) ∧ (¬ way = 0 → f (10 + 4 * (6 * y + x) + 3) < f (10 + 4 * (6 * y + x) + 1))))) : ov_cgi f x y way = 0 := by
  unfold ov_cgi
  rw [if_neg hq]
/-- a told walk: how far over one is before a step -/
def ov_sx (f : Int → Int) : Nat → Int
  | 0 => 0
  | k + 1 => ov_sx f k + (1 - f (1 + 2 * (k : Int)))
def ov_WK (f : Int → Int) : Prop := ov_sx f (f 0).toNat ≤ 5 ∧ f 0 - ov_sx f (f 0).toNat ≤ 8
theorem ov_sx_mono {f : Int → Int} (hf : ∀ j : Int, 0 ≤ j → j ≤ 12 → 0 ≤ f (1 + 2 * j) ∧ f (1 + 2 * j) ≤ 1) (k : Nat) : ∀ m : Nat, k + m ≤ 13 → ov_sx f k ≤ ov_sx f (k + m) ∧ (k : Int) - ov_sx f k ≤ ((k + m : Nat) : Int) - ov_sx f (k + m) := by
  intro m
  induction m with
  | zero => intro _; exact ⟨Int.le_refl _, Int.le_refl _⟩
  | succ m ih =>
    intro hm
    have h1 := ih (by omega)
    have h2 := hf ((k + m : Nat) : Int) (by omega) (by omega)
    have e : ov_sx f (k + (m + 1)) = ov_sx f (k + m) + (1 - f (1 + 2 * ((k + m : Nat) : Int))) := rfl
    rw [e]
    omega
/-- a told walk never leaves the six by nine corners -/
theorem ov_WK_in {f : Int → Int} (W : ov_WK f) (hf : ∀ j : Int, 0 ≤ j → j ≤ 12 → 0 ≤ f (1 + 2 * j) ∧ f (1 + 2 * j) ≤ 1) (h0 : 0 ≤ f 0 ∧ f 0 ≤ 13) {k : Int} (hk : 0 ≤ k ∧ k ≤ f 0) : 0 ≤ ov_sx f k.toNat ∧ ov_sx f k.toNat ≤ 5 ∧ 0 ≤ k - ov_sx f k.toNat ∧ k - ov_sx f k.toNat ≤ 8 := by
  have h1 := ov_sx_mono hf k.toNat ((f 0).toNat - k.toNat) (by omega)
  have h2 := ov_sx_mono hf 0 k.toNat (by omega)
  have e1 : k.toNat + ((f 0).toNat - k.toNat) = (f 0).toNat := by omega
  rw [e1] at h1
  rw [Nat.zero_add] at h2
  have e2 : ov_sx f 0 = 0 := rfl
  rw [e2] at h2
  obtain ⟨w1, w2⟩ := W
  omega
theorem ov_sx_s (f : Int → Int) {k : Int} (hk : 0 ≤ k) : ov_sx f (k + 1).toNat = ov_sx f k.toNat + (1 - f (1 + 2 * k)) := by
  have e : (k + 1).toNat = k.toNat + 1 := by omega
  rw [e]
  show ov_sx f k.toNat + (1 - f (1 + 2 * (k.toNat : Int))) = _
  rw [Int.toNat_of_nonneg hk]
/-- the soonest that one can be home -/
def ov_sf (f : Int → Int) : Nat → Int → Int → Int → Int
  | 0, _, _, s => s
  | k + 1, x, y, s =>
    if x = f 0 - 1 ∧ y = f 1 - 1 then s
    else min (if ov_cgi f x y 0 = 1 then ov_sf f k (x + 1) y (s + ov_wm f (6 * y + x) 0 s + f 2) else 2000000000)
      (min (if ov_cgi f x y 1 = 1 then ov_sf f k x (y + 1) (s + ov_wm f (6 * y + x) 1 s + f 2) else 2000000000) 2000000000)
theorem ov_cgi_sp (f : Int → Int) (x y way : Int) : (ov_cgi f x y way = 0 ∨ ov_cgi f x y way = 1) ∧ (ov_cgi f x y way = 1 → ((way = 0 → x < f 0 - 1) ∧ (¬ way = 0 → y < f 1 - 1)) ∧ ((f (10 + 4 * (6 * y + x)) = 1 ∨ f (10 + 4 * (6 * y + x)) = 2) → (way = 0 → 0 < f (10 + 4 * (6 * y + x) + 3)) ∧ (¬ way = 0 → f (10 + 4 * (6 * y + x) + 3) < f (10 + 4 * (6 * y + x) + 1)))) := by
  unfold ov_cgi
  split
  · rename_i hq
    exact ⟨Or.inr rfl, fun _ => ⟨hq.1, hq.2.2⟩⟩
  · exact ⟨Or.inl rfl, fun e => absurd e (by decide)⟩
def ov_so (f : Int → Int) (x y s : Int) : Int := ov_sf f (14 - x - y).toNat x y s
/-- the soonest by a way; too far where one can't go it -/
def ov_sa (f : Int → Int) (x y s way : Int) : Int := if ov_cgi f x y way = 1 then ov_so f (x + 1 - way) (y + way) (s + ov_wm f (6 * y + x) way s + f 2) else 2000000000
theorem ov_sa_1 {f : Int → Int} {x y s way : Int} (hq : ov_cgi f x y way = 1) : ov_sa f x y s way = ov_so f (x + 1 - way) (y + way) (s + ov_wm f (6 * y + x) way s + f 2) := by
  unfold ov_sa
  rw [if_pos hq]
theorem ov_sa_0 {f : Int → Int} {x y s way : Int} (hq : ¬ ov_cgi f x y way = 1) : ov_sa f x y s way = 2000000000 := by
  unfold ov_sa
  rw [if_neg hq]
theorem ov_so_home {f : Int → Int} {x y s : Int} (hs : x + y ≤ 13) (hq : x = f 0 - 1 ∧ y = f 1 - 1) : ov_so f x y s = s := by
  unfold ov_so
  obtain ⟨k, hk⟩ : ∃ k : Nat, (14 - x - y).toNat = k + 1 := ⟨(13 - x - y).toNat, by omega⟩
  rw [hk]
  show (if _ then _ else _) = _
  rw [if_pos hq]
theorem ov_so_eq {f : Int → Int} {x y s : Int} (hs : x + y ≤ 13) (hq : ¬ (x = f 0 - 1 ∧ y = f 1 - 1)) : ov_so f x y s ≤ 2000000000 ∧ ov_so f x y s ≤ ov_sa f x y s 0 ∧ ov_so f x y s ≤ ov_sa f x y s 1 ∧ (ov_so f x y s = 2000000000 ∨ ov_so f x y s = ov_sa f x y s 0 ∨ ov_so f x y s = ov_sa f x y s 1) := by
  obtain ⟨k, hk⟩ : ∃ k : Nat, (14 - x - y).toNat = k + 1 := ⟨(13 - x - y).toNat, by omega⟩
  have e0 : (14 - (x + 1 - 0) - (y + 0)).toNat = k := by omega
  have e1 : (14 - (x + 1 - 1) - (y + 1)).toNat = k := by omega
  have e : ov_so f x y s = min (ov_sa f x y s 0) (min (ov_sa f x y s 1) 2000000000) := by
    unfold ov_so ov_sa
    rw [hk]
    show (if _ then _ else _) = _
    rw [if_neg hq]
    unfold ov_so
    rw [e0, e1, Int.add_zero, Int.sub_zero, Int.add_sub_cancel]
  rw [e]
  omega

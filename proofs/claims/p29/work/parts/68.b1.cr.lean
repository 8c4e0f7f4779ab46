/-! the class's town being read, as the town A -/
def pt_CR (t : Int → Int) (m : Int) (A r0 r1 r2 r3 r4 r5 r6 r8 : Int → Int) : Prop :=
  (r0 0 = A 0 ∧ r0 1 = A 1 ∧ r0 8 = A 304 ∧ r0 9 = A 7 ∧ r0 10 = A 9 ∧ r0 11 = A 8) ∧
  (∀ c : Int, 0 ≤ c → c < 54 → r1 c = A (10 + 4 * c) - 1 ∧ r5 c = A (226 + c)) ∧
  (∀ c : Int, 0 ≤ c → c < 54 → 1 ≤ A (10 + 4 * c) → r2 c = A (11 + 4 * c) ∧ r3 c = A (12 + 4 * c) ∧ r4 c = A (13 + 4 * c)) ∧
  (∀ i : Int, 0 ≤ i → i < 4 → r6 i = pt_se A i ∧ (A (300 + i) ≠ 0 → 0 ≤ A (2 + i))) ∧
  (∀ i : Int, 0 ≤ i → i < A 8 → r8 i = pt_w256 t m (A (310 + i)) ∧ pt_ty t m (A (310 + i)) = 2) ∧
  (1 ≤ A 0 ∧ A 0 ≤ 6 ∧ 1 ≤ A 1 ∧ A 1 ≤ 9 ∧ 0 ≤ A 8 ∧ A 8 ≤ 4 ∧ 1 ≤ A 9 ∧ A 9 ≤ 1200 ∧ 0 ≤ A 304 ∧ A 304 ≤ 1 ∧ A 6 = A 304)
section
variable {t : Int → Int} {m : Int} {A r0 r1 r2 r3 r4 r5 r6 r8 : Int → Int}
theorem pt_CR_0 (K : pt_CR t m A r0 r1 r2 r3 r4 r5 r6 r8) : r0 0 = A 0 := K.1.1
theorem pt_CR_1 (K : pt_CR t m A r0 r1 r2 r3 r4 r5 r6 r8) : r0 1 = A 1 := K.1.2.1
theorem pt_CR_8 (K : pt_CR t m A r0 r1 r2 r3 r4 r5 r6 r8) : r0 8 = A 304 := K.1.2.2.1
theorem pt_CR_9 (K : pt_CR t m A r0 r1 r2 r3 r4 r5 r6 r8) : r0 9 = A 7 := K.1.2.2.2.1
theorem pt_CR_10 (K : pt_CR t m A r0 r1 r2 r3 r4 r5 r6 r8) : r0 10 = A 9 := K.1.2.2.2.2.1
theorem pt_CR_11 (K : pt_CR t m A r0 r1 r2 r3 r4 r5 r6 r8) : r0 11 = A 8 := K.1.2.2.2.2.2
theorem pt_CR_k (K : pt_CR t m A r0 r1 r2 r3 r4 r5 r6 r8) {c : Int} (h : 0 ≤ c ∧ c < 54) : r1 c = A (10 + 4 * c) - 1 := (K.2.1 c h.1 h.2).1
theorem pt_CR_b (K : pt_CR t m A r0 r1 r2 r3 r4 r5 r6 r8) {c : Int} (h : 0 ≤ c ∧ c < 54) : r5 c = A (226 + c) := (K.2.1 c h.1 h.2).2
theorem pt_CR_s (K : pt_CR t m A r0 r1 r2 r3 r4 r5 r6 r8) {i : Int} (h : 0 ≤ i ∧ i < 4) : r6 i = pt_se A i := (K.2.2.2.1 i h.1 h.2).1
theorem pt_CR_t (K : pt_CR t m A r0 r1 r2 r3 r4 r5 r6 r8) {i : Int} (h : 0 ≤ i ∧ i < 4) : pt_se A i = -1 ↔ A (300 + i) = 0 := by
  have q := (K.2.2.2.1 i h.1 h.2).2
  unfold pt_se
  split
  · omega
  · have := q (by assumption)
    omega
theorem pt_CR_n (K : pt_CR t m A r0 r1 r2 r3 r4 r5 r6 r8) {i : Int} (h : 0 ≤ i ∧ i < A 8) : r8 i = pt_w256 t m (A (310 + i)) ∧ pt_ty t m (A (310 + i)) = 2 := K.2.2.2.2.1 i h.1 h.2
theorem pt_CR_r (K : pt_CR t m A r0 r1 r2 r3 r4 r5 r6 r8) : 1 ≤ A 0 ∧ A 0 ≤ 6 ∧ 1 ≤ A 1 ∧ A 1 ≤ 9 ∧ 0 ≤ A 8 ∧ A 8 ≤ 4 ∧ 1 ≤ A 9 ∧ A 9 ≤ 1200 ∧ 0 ≤ A 304 ∧ A 304 ≤ 1 ∧ A 6 = A 304 := K.2.2.2.2.2
/-- fields that no reader of a line asks for may change -/
theorem pt_CR_f (K : pt_CR t m A r0 r1 r2 r3 r4 r5 r6 r8) {s0 : Int → Int} (f : ∀ k : Int, k ≠ 16 → s0 k = r0 k) : pt_CR t m A s0 r1 r2 r3 r4 r5 r6 r8 := by
  refine ⟨?_, K.2⟩
  rw [f 0 (by decide), f 1 (by decide), f 8 (by decide), f 9 (by decide), f 10 (by decide), f 11 (by decide)]
  exact K.1
theorem pt_CR_bar (K : pt_CR t m A r0 r1 r2 r3 r4 r5 r6 r8) {C v : Int} (hC : 0 ≤ C ∧ C < 54) : pt_CR t m (ov_rs A (226 + C) v) r0 r1 r2 r3 r4 (ov_rs r5 C v) r6 r8 := by
  obtain ⟨k1, k2, k3, k4, k5, k6⟩ := K
  refine ⟨?_, fun c h0 h1 => ?_, fun c h0 h1 h2 => ?_, fun i h0 h1 => ?_, fun i h0 h1 => ?_, ?_⟩
  · rw [ov_rs_ne (by omega), ov_rs_ne (by omega), ov_rs_ne (by omega), ov_rs_ne (by omega), ov_rs_ne (by omega), ov_rs_ne (by omega)]
    exact k1
  · rw [ov_rs_ne (f := A) (j := 10 + 4 * c) (by omega)]
    refine ⟨(k2 c h0 h1).1, ?_⟩
    by_cases e : c = C
    · rw [e, ov_rs_eq, ov_rs_eq]
    · rw [ov_rs_ne e, ov_rs_ne (by omega)]
      exact (k2 c h0 h1).2
  · rw [ov_rs_ne (by omega)] at h2
    rw [ov_rs_ne (by omega), ov_rs_ne (by omega), ov_rs_ne (by omega)]
    exact k3 c h0 h1 h2
  · unfold pt_se
    rw [ov_rs_ne (by omega), ov_rs_ne (by omega)]
    exact k4 i h0 h1
  · rw [ov_rs_ne (by omega)] at h1
    rw [ov_rs_ne (by omega)]
    exact k5 i h0 h1
  · rw [ov_rs_ne (by omega), ov_rs_ne (by omega), ov_rs_ne (by omega), ov_rs_ne (by omega), ov_rs_ne (by omega), ov_rs_ne (by omega)]
    exact k6
theorem pt_CR_set (K : pt_CR t m A r0 r1 r2 r3 r4 r5 r6 r8) {w v : Int} (hw : 0 ≤ w ∧ w < 4) (hv : 0 ≤ v) : pt_CR t m (ov_rs (ov_rs A (300 + w) 1) (2 + w) v) r0 r1 r2 r3 r4 r5 (ov_rs r6 w v) r8 := by
  obtain ⟨k1, k2, k3, k4, k5, k6⟩ := K
  have e : ∀ j : Int, j ≠ 300 + w → j ≠ 2 + w → ov_rs (ov_rs A (300 + w) 1) (2 + w) v j = A j := fun j a b => by rw [ov_rs_ne b, ov_rs_ne a]
  refine ⟨?_, fun c h0 h1 => ?_, fun c h0 h1 h2 => ?_, fun i h0 h1 => ?_, fun i h0 h1 => ?_, ?_⟩
  · rw [e _ (by omega) (by omega), e _ (by omega) (by omega), e _ (by omega) (by omega), e _ (by omega) (by omega), e _ (by omega) (by omega), e _ (by omega) (by omega)]
    exact k1
  · rw [e _ (by omega) (by omega), e _ (by omega) (by omega)]
    exact k2 c h0 h1
  · rw [e _ (by omega) (by omega)] at h2
    rw [e _ (by omega) (by omega), e _ (by omega) (by omega), e _ (by omega) (by omega)]
    exact k3 c h0 h1 h2
  · unfold pt_se
    by_cases q : i = w
    · rw [q, ov_rs_eq, ov_rs_eq, ov_rs_ne (by omega), ov_rs_eq, if_neg (by decide)]
      exact ⟨rfl, fun _ => hv⟩
    · rw [ov_rs_ne q, e _ (by omega) (by omega), e _ (by omega) (by omega)]
      exact k4 i h0 h1
  · rw [e _ (by omega) (by omega)] at h1
    rw [e _ (by omega) (by omega)]
    exact k5 i h0 h1
  · rw [e _ (by omega) (by omega), e _ (by omega) (by omega), e _ (by omega) (by omega), e _ (by omega) (by omega), e _ (by omega) (by omega), e _ (by omega) (by omega)]
    exact k6
theorem pt_CR_child (K : pt_CR t m A r0 r1 r2 r3 r4 r5 r6 r8) : pt_CR t m (pt_chA A) (ov_rs r0 8 1) r1 r2 r3 r4 r5 r6 r8 := by
  obtain ⟨k1, k2, k3, k4, k5, k6⟩ := K
  have e : ∀ j : Int, j ≠ 304 → j ≠ 6 → pt_chA A j = A j := fun j a b => by
    unfold pt_chA
    rw [ov_rs_ne b, ov_rs_ne a]
  have e4 : pt_chA A 304 = 1 := by
    unfold pt_chA
    rw [ov_rs_ne (by decide), ov_rs_eq]
  have e6 : pt_chA A 6 = 1 := by
    unfold pt_chA
    rw [ov_rs_eq]
  refine ⟨?_, fun c h0 h1 => ?_, fun c h0 h1 h2 => ?_, fun i h0 h1 => ?_, fun i h0 h1 => ?_, ?_⟩
  · rw [e4, e 0 (by decide) (by decide), e 1 (by decide) (by decide), e 7 (by decide) (by decide), e 9 (by decide) (by decide), e 8 (by decide) (by decide), ov_rs_eq, ov_rs_ne (by decide), ov_rs_ne (by decide), ov_rs_ne (by decide), ov_rs_ne (by decide), ov_rs_ne (by decide)]
    omega
  · rw [e _ (by omega) (by omega), e _ (by omega) (by omega)]
    exact k2 c h0 h1
  · rw [e _ (by omega) (by omega)] at h2
    rw [e _ (by omega) (by omega), e _ (by omega) (by omega), e _ (by omega) (by omega)]
    exact k3 c h0 h1 h2
  · unfold pt_se
    rw [e _ (by omega) (by omega), e _ (by omega) (by omega)]
    exact k4 i h0 h1
  · rw [e _ (by omega) (by omega)] at h1
    rw [e _ (by omega) (by omega)]
    exact k5 i h0 h1
  · rw [e4, e6, e 0 (by decide) (by decide), e 1 (by decide) (by decide), e 9 (by decide) (by decide), e 8 (by decide) (by decide)]
    omega
theorem pt_CR_rule (K : pt_CR t m A r0 r1 r2 r3 r4 r5 r6 r8) {s0 s8 : Int → Int} {a : Int} (h8 : A 8 < 4) (hw : pt_ty t m a = 2) (f : ∀ k : Int, k ≠ 11 → k ≠ 16 → s0 k = r0 k) (f1 : s0 11 = A 8 + 1) (e8 : s8 = ov_rs r8 (A 8) (pt_w256 t m a)) : pt_CR t m (ov_rs (ov_rs A (310 + A 8) a) 8 (A 8 + 1)) s0 r1 r2 r3 r4 r5 r6 s8 := by
  obtain ⟨k1, k2, k3, k4, k5, k6⟩ := K
  subst e8
  have e : ∀ j : Int, j ≠ 310 + A 8 → j ≠ 8 → ov_rs (ov_rs A (310 + A 8) a) 8 (A 8 + 1) j = A j := fun j x y => by rw [ov_rs_ne y, ov_rs_ne x]
  refine ⟨?_, fun c h0 h1 => ?_, fun c h0 h1 h2 => ?_, fun i h0 h1 => ?_, fun i h0 h1 => ?_, ?_⟩
  · rw [ov_rs_eq, e 0 (by omega) (by decide), e 1 (by omega) (by decide), e 304 (by omega) (by decide), e 7 (by omega) (by decide), e 9 (by omega) (by decide), f 0 (by decide) (by decide), f 1 (by decide) (by decide), f 8 (by decide) (by decide), f 9 (by decide) (by decide), f 10 (by decide) (by decide)]
    omega
  · rw [e _ (by omega) (by omega), e _ (by omega) (by omega)]
    exact k2 c h0 h1
  · rw [e _ (by omega) (by omega)] at h2
    rw [e _ (by omega) (by omega), e _ (by omega) (by omega), e _ (by omega) (by omega)]
    exact k3 c h0 h1 h2
  · unfold pt_se
    rw [e _ (by omega) (by omega), e _ (by omega) (by omega)]
    exact k4 i h0 h1
  · rw [ov_rs_eq] at h1
    by_cases q : i = A 8
    · rw [q, ov_rs_eq, ov_rs_ne (by omega), ov_rs_eq]
      exact ⟨rfl, hw⟩
    · rw [ov_rs_ne q, e _ (by omega) (by omega)]
      exact k5 i h0 (by omega)
  · rw [ov_rs_eq, e 0 (by omega) (by decide), e 1 (by omega) (by decide), e 9 (by omega) (by decide), e 304 (by omega) (by decide), e 6 (by omega) (by decide)]
    omega
theorem pt_CR_light (K : pt_CR t m A r0 r1 r2 r3 r4 r5 r6 r8) {s0 : Int → Int} {C kd cm rd st sp : Int} (hC : 0 ≤ C ∧ C < 54) (hk : 0 ≤ kd) (hc : 1 ≤ cm ∧ cm ≤ 1200) (f : ∀ k : Int, k ≠ 9 → k ≠ 10 → s0 k = r0 k) (f9 : s0 9 = ov_w (A 7 + 1)) (f10 : s0 10 = cm) : pt_CR t m (pt_liB A C kd cm rd st sp) s0 (ov_rs r1 C kd) (ov_rs r2 C rd) (ov_rs r3 C st) (ov_rs r4 C sp) r5 r6 r8 := by
  obtain ⟨k1, k2, k3, k4, k5, k6⟩ := K
  have e : ∀ j : Int, j ≠ 9 → j ≠ 7 → (j < 10 + 4 * C ∨ 13 + 4 * C < j) → pt_liB A C kd cm rd st sp j = A j := fun j a b c => by
    unfold pt_liB
    rw [ov_rs_ne b, ov_rs_ne (by omega), ov_rs_ne (by omega), ov_rs_ne (by omega), ov_rs_ne (by omega), ov_rs_ne a]
  have e7 : pt_liB A C kd cm rd st sp 7 = ov_w (A 7 + 1) := by
    unfold pt_liB
    rw [ov_rs_eq]
  have e9 : pt_liB A C kd cm rd st sp 9 = cm := by
    unfold pt_liB
    rw [ov_rs_ne (by decide), ov_rs_ne (by omega), ov_rs_ne (by omega), ov_rs_ne (by omega), ov_rs_ne (by omega), ov_rs_eq]
  have d0 : pt_liB A C kd cm rd st sp (10 + 4 * C) = 1 + kd := by
    unfold pt_liB
    rw [ov_rs_ne (by omega), ov_rs_ne (by omega), ov_rs_ne (by omega), ov_rs_ne (by omega), ov_rs_eq]
  have d1 : pt_liB A C kd cm rd st sp (11 + 4 * C) = rd := by
    unfold pt_liB
    rw [ov_rs_ne (by omega), ov_rs_ne (by omega), ov_rs_ne (by omega), ov_rs_eq]
  have d2 : pt_liB A C kd cm rd st sp (12 + 4 * C) = st := by
    unfold pt_liB
    rw [ov_rs_ne (by omega), ov_rs_ne (by omega), ov_rs_eq]
  have d3 : pt_liB A C kd cm rd st sp (13 + 4 * C) = sp := by
    unfold pt_liB
    rw [ov_rs_ne (by omega), ov_rs_eq]
  refine ⟨?_, fun c h0 h1 => ?_, fun c h0 h1 h2 => ?_, fun i h0 h1 => ?_, fun i h0 h1 => ?_, ?_⟩
  · rw [e7, e9, e 0 (by decide) (by decide) (by omega), e 1 (by decide) (by decide) (by omega), e 304 (by decide) (by decide) (by omega), e 8 (by decide) (by decide) (by omega), f9, f10, f 0 (by decide) (by decide), f 1 (by decide) (by decide), f 8 (by decide) (by decide), f 11 (by decide) (by decide)]
    omega
  · rw [e (226 + c) (by omega) (by omega) (by omega)]
    refine ⟨?_, (k2 c h0 h1).2⟩
    by_cases q : c = C
    · rw [q, ov_rs_eq, d0]
      omega
    · rw [ov_rs_ne q, e _ (by omega) (by omega) (by omega)]
      exact (k2 c h0 h1).1
  · by_cases q : c = C
    · rw [q, ov_rs_eq, ov_rs_eq, ov_rs_eq, d1, d2, d3]
      exact ⟨rfl, rfl, rfl⟩
    · rw [e _ (by omega) (by omega) (by omega)] at h2
      rw [ov_rs_ne q, ov_rs_ne q, ov_rs_ne q, e _ (by omega) (by omega) (by omega), e _ (by omega) (by omega) (by omega), e _ (by omega) (by omega) (by omega)]
      exact k3 c h0 h1 h2
  · unfold pt_se
    rw [e _ (by omega) (by omega) (by omega), e _ (by omega) (by omega) (by omega)]
    exact k4 i h0 h1
  · rw [e 8 (by decide) (by decide) (by omega)] at h1
    rw [e _ (by omega) (by omega) (by omega)]
    exact k5 i h0 h1
  · rw [e9, e 0 (by decide) (by decide) (by omega), e 1 (by decide) (by decide) (by omega), e 8 (by decide) (by decide) (by omega), e 304 (by decide) (by decide) (by omega), e 6 (by decide) (by decide) (by omega)]
    omega
/-- at first, behind the two numbers -/
theorem pt_CR_first {w l : Int} (hw : 1 ≤ w ∧ w ≤ 6) (hl : 1 ≤ l ∧ l ≤ 9) (q0 : r0 0 = w) (q1 : r0 1 = l) (q8 : r0 8 = 0) (q9 : r0 9 = 0) (q10 : r0 10 = 1) (q11 : r0 11 = 0) (y1 : ∀ c : Int, 0 ≤ c → c < 54 → r1 c = -1) (y5 : ∀ c : Int, 0 ≤ c → c < 54 → r5 c = 0) (y6 : ∀ c : Int, 0 ≤ c → c < 4 → r6 c = -1) : pt_CR t m (pt_A0 w l) r0 r1 r2 r3 r4 r5 r6 r8 := by
  have z : ∀ j : Int, 10 ≤ j → pt_A0 w l j = 0 := fun j h => by
    unfold pt_A0
    rw [if_neg (by omega), if_neg (by omega), if_neg (by omega), if_neg (by omega), if_neg (by omega)]
  have z8 : pt_A0 w l 8 = 0 := rfl
  have z7 : pt_A0 w l 7 = 0 := rfl
  have z6 : pt_A0 w l 6 = 0 := rfl
  have z0 : pt_A0 w l 0 = w := rfl
  have z1 : pt_A0 w l 1 = l := rfl
  have z9 : pt_A0 w l 9 = 1 := rfl
  refine ⟨?_, fun c h0 h1 => ?_, fun c h0 h1 h2 => ?_, fun i h0 h1 => ?_, fun i h0 h1 => ?_, ?_⟩
  · rw [z0, z1, z7, z8, z9, z 304 (by decide)]
    omega
  · rw [z _ (by omega), z _ (by omega), y1 c h0 h1, y5 c h0 h1]
    omega
  · rw [z _ (by omega)] at h2
    omega
  · unfold pt_se
    rw [z _ (by omega), if_pos rfl]
    exact ⟨y6 i h0 h1, fun w => absurd rfl w⟩
  · rw [z8] at h1
    omega
  · rw [z0, z1, z6, z8, z9, z 304 (by decide)]
    omega
end

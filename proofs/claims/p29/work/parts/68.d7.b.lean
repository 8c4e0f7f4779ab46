theorem pt_iw_i {t : Int → Int} {m p w : Int} : pt_iw t m p w = 1 ↔ pt_ty t m p = 2 ∧ pt_w256 t m p = w := by
  unfold pt_iw
  split <;> omega
theorem pt_C_4 : pt_C 4 = 2002873451 := by decide +kernel
theorem pt_C_5 : pt_C 5 = 7501166 := by decide +kernel
theorem pt_C_6 : pt_C 6 = 1936486263 := by decide +kernel
theorem pt_C_7 : pt_C 7 = 1920298611 := by decide +kernel
theorem pt_C_8 : pt_C 8 = 426953501796 := by decide +kernel
theorem pt_C_13 : pt_C 13 = 427021001579 := by decide +kernel
theorem pt_C_14 : pt_C 14 = 114801865155950 := by decide +kernel
theorem pt_C_15 : pt_C 15 = 108256604483438 := by decide +kernel
theorem pt_C_16 : pt_C 16 = 123623862526821 := by decide +kernel
/-- the reference's word for a line that is told once -/
theorem pt_wh_lk {t : Int → Int} {m p : Int} : pt_wh t m p 4 (Int.toNat 5) = -1 ∧ pt_lk t m p < 3 ∨ 0 ≤ pt_wh t m p 4 (Int.toNat 5) ∧ pt_wh t m p 4 (Int.toNat 5) ≤ 4 ∧ pt_lk t m p = 3 + pt_wh t m p 4 (Int.toNat 5) ∧ pt_ty t m p = 2 := by
  have a4 := pt_wh_s (t := t) (m := m) (p := p) (a := 4) (k := 4) (by omega)
  have a3 := pt_wh_s (t := t) (m := m) (p := p) (a := 4) (k := 3) (by omega)
  have a2 := pt_wh_s (t := t) (m := m) (p := p) (a := 4) (k := 2) (by omega)
  have a1 := pt_wh_s (t := t) (m := m) (p := p) (a := 4) (k := 1) (by omega)
  have a0 := pt_wh_s (t := t) (m := m) (p := p) (a := 4) (k := 0) (by omega)
  have c : pt_wh t m p 4 (Int.toNat 0) = -1 := rfl
  rw [show (4 : Int) + 4 = 8 from rfl, show (4 : Int) + 1 = 5 from rfl, pt_C_8] at a4
  rw [show (4 : Int) + 3 = 7 from rfl, show (3 : Int) + 1 = 4 from rfl, pt_C_7] at a3
  rw [show (4 : Int) + 2 = 6 from rfl, show (2 : Int) + 1 = 3 from rfl, pt_C_6] at a2
  rw [show (4 : Int) + 1 = 5 from rfl, show (1 : Int) + 1 = 2 from rfl, pt_C_5] at a1
  rw [show (4 : Int) + 0 = 4 from rfl, show (0 : Int) + 1 = 1 from rfl, pt_C_4] at a0
  simp only [ne_eq, pt_iw_i] at a4 a3 a2 a1 a0
  unfold pt_lk
  simp only [pt_iw_i]
  generalize pt_ty t m p = y at a4 a3 a2 a1 a0 ⊢
  generalize pt_w256 t m p = x at a4 a3 a2 a1 a0 ⊢
  generalize pt_wh t m p 4 (Int.toNat 5) = w5 at a4 ⊢
  generalize pt_wh t m p 4 (Int.toNat 4) = w4 at a4 a3
  generalize pt_wh t m p 4 (Int.toNat 3) = w3 at a3 a2
  generalize pt_wh t m p 4 (Int.toNat 2) = w2 at a2 a1
  generalize pt_wh t m p 4 (Int.toNat 1) = w1 at a1 a0
  generalize pt_wh t m p 4 (Int.toNat 0) = w0 at a0 c
  by_cases hy : y = 2
  · by_cases x4 : x = 426953501796
    · have e : w5 = 4 := by omega
      refine Or.inr ⟨by omega, by omega, ?_, hy⟩
      (repeat' split) <;> omega
    · by_cases x3 : x = 1920298611
      · have e : w5 = 3 := by omega
        refine Or.inr ⟨by omega, by omega, ?_, hy⟩
        (repeat' split) <;> omega
      · by_cases x2 : x = 1936486263
        · have e : w5 = 2 := by omega
          refine Or.inr ⟨by omega, by omega, ?_, hy⟩
          (repeat' split) <;> omega
        · by_cases x1 : x = 7501166
          · have e : w5 = 1 := by omega
            refine Or.inr ⟨by omega, by omega, ?_, hy⟩
            (repeat' split) <;> omega
          · by_cases x0 : x = 2002873451
            · have e : w5 = 0 := by omega
              refine Or.inr ⟨by omega, by omega, ?_, hy⟩
              (repeat' split) <;> omega
            · have e : w5 = -1 := by omega
              refine Or.inl ⟨e, ?_⟩
              (repeat' split) <;> omega
  · have e : w5 = -1 := by omega
    refine Or.inl ⟨e, ?_⟩
    (repeat' split) <;> omega
/-- .. for a light's kind -/
theorem pt_wh_kt {t : Int → Int} {m p : Int} : pt_wh t m p 13 (Int.toNat 4) = pt_kt t m p := by
  have a3 := pt_wh_s (t := t) (m := m) (p := p) (a := 13) (k := 3) (by omega)
  have a2 := pt_wh_s (t := t) (m := m) (p := p) (a := 13) (k := 2) (by omega)
  have a1 := pt_wh_s (t := t) (m := m) (p := p) (a := 13) (k := 1) (by omega)
  have a0 := pt_wh_s (t := t) (m := m) (p := p) (a := 13) (k := 0) (by omega)
  have c : pt_wh t m p 13 (Int.toNat 0) = -1 := rfl
  rw [show (13 : Int) + 3 = 16 from rfl, show (3 : Int) + 1 = 4 from rfl, pt_C_16] at a3
  rw [show (13 : Int) + 2 = 15 from rfl, show (2 : Int) + 1 = 3 from rfl, pt_C_15] at a2
  rw [show (13 : Int) + 1 = 14 from rfl, show (1 : Int) + 1 = 2 from rfl, pt_C_14] at a1
  rw [show (13 : Int) + 0 = 13 from rfl, show (0 : Int) + 1 = 1 from rfl, pt_C_13] at a0
  simp only [ne_eq, pt_iw_i] at a3 a2 a1 a0
  unfold pt_kt
  simp only [pt_iw_i]
  generalize pt_ty t m p = y at a3 a2 a1 a0 ⊢
  generalize pt_w256 t m p = x at a3 a2 a1 a0 ⊢
  generalize pt_wh t m p 13 (Int.toNat 4) = w4 at a3 ⊢
  generalize pt_wh t m p 13 (Int.toNat 3) = w3 at a3 a2
  generalize pt_wh t m p 13 (Int.toNat 2) = w2 at a2 a1
  generalize pt_wh t m p 13 (Int.toNat 1) = w1 at a1 a0
  generalize pt_wh t m p 13 (Int.toNat 0) = w0 at a0 c
  (repeat' split) <;> omega
/-- which words no rule may bear -/
theorem pt_rv_C : ∀ j, j < 20 → pt_rv ((j : Nat) : Int) = pt_C ((j : Nat) : Int) := by decide +kernel
theorem pt_wh_ex {t : Int → Int} {m p a : Int} : ∀ k : Nat, 0 ≤ pt_wh t m p a k ↔ ∃ j : Nat, j < k ∧ pt_iw t m p (pt_C (a + (j : Int))) = 1
  | 0 => ⟨fun h => absurd (show (0 : Int) ≤ -1 from h) (by decide), fun ⟨j, hj, _⟩ => absurd hj (Nat.not_lt_zero j)⟩
  | k + 1 => by
    have ih := pt_wh_ex (t := t) (m := m) (p := p) (a := a) k
    show 0 ≤ (if pt_iw t m p (pt_C (a + (k : Int))) = 1 then (k : Int) else pt_wh t m p a k) ↔ _
    by_cases c : pt_iw t m p (pt_C (a + (k : Int))) = 1
    · rw [if_pos c]
      exact ⟨fun _ => ⟨k, Nat.lt_succ_self k, c⟩, fun _ => Int.natCast_nonneg k⟩
    · rw [if_neg c]
      constructor
      · intro h
        obtain ⟨j, h1, h2⟩ := ih.mp h
        exact ⟨j, Nat.lt_succ_of_lt h1, h2⟩
      · rintro ⟨j, h1, h2⟩
        refine ih.mpr ⟨j, ?_, h2⟩
        rcases Nat.lt_or_ge j k with q | q
        · exact q
        · have e : j = k := by omega
          rw [e] at h2
          exact absurd h2 c
theorem pt_RS_wh {t : Int → Int} {m p : Int} (h : pt_ty t m p = 2) : pt_RS t m p ↔ 0 ≤ pt_wh t m p 0 (Int.toNat 20) := by
  rw [pt_wh_ex]
  constructor
  · rintro ⟨j, h0, h1, e⟩
    obtain ⟨n, rfl⟩ := Int.eq_ofNat_of_zero_le h0
    refine ⟨n, by omega, ?_⟩
    rw [pt_iw_i, Int.zero_add]
    exact ⟨h, e.symm.trans (pt_rv_C n (by omega))⟩
  · rintro ⟨n, h1, e⟩
    rw [pt_iw_i, Int.zero_add] at e
    have h2 : n < 20 := h1
    exact ⟨(n : Int), by omega, by omega, (pt_rv_C n h2).trans e.2.symm⟩
/-- two words are alike to the base 256 just where they are to the base 37 -/
theorem pt_w_i {t : Int → Int} {m p q : Int} (hp : pt_ty t m p = 2) (hq : pt_ty t m q = 2) : pt_w256 t m p = pt_w256 t m q ↔ pt_w37 t m p = pt_w37 t m q := by
  obtain ⟨a, b, l⟩ := pt_ty_w hp
  obtain ⟨a2, b2, l2⟩ := pt_ty_w hq
  exact pt_wv_i _ _ (fun j h0 h1 => l j h0 (by omega)) (fun j h0 h1 => l2 j h0 (by omega))
section
variable {t : Int → Int} {m : Int} {A r nm : Int → Int} {tb : Int}
/-- a line that is told once -/
theorem pt_MR_once (K : pt_MR t m A r tb nm) {w v : Int} (hw : 0 ≤ w ∧ w < 5) (hv : w = 4 → v = 1) (hz : w = 0 → 1 ≤ v) : pt_MR t m (ov_rs (ov_rs A (300 + w) 1) (2 + w) v) (ov_rs r (342 + w) v) (ov_or tb (ov_shl 1 w)) nm := by
  have rr := K.2.2.2
  have bb := pt_bit (x := tb) (s := w) (by omega) hw
  refine ⟨fun i h0 h1 => ?_, fun s h0 h1 => ?_, fun i h0 h1 => ?_, ?_⟩
  · by_cases q : i = 2 + w
    · rw [q, ov_rs_eq, show (340 : Int) + (2 + w) = 342 + w by omega, ov_rs_eq]
    · rw [ov_rs_ne q, ov_rs_ne (show i ≠ 300 + w by omega), ov_rs_ne (show 340 + i ≠ 342 + w by omega)]
      exact K.1 i h0 h1
  · rw [ov_rs_ne (show 300 + s ≠ 2 + w by omega)]
    by_cases q : s = w
    · rw [q, ov_rs_eq]
      exact ⟨Or.inr rfl, bb.2.1⟩
    · rw [ov_rs_ne (show 300 + s ≠ 300 + w by omega), bb.2.2 s h0 h1 q]
      exact K.2.1 s h0 h1
  · rw [ov_rs_ne (show (8 : Int) ≠ 2 + w by omega), ov_rs_ne (show (8 : Int) ≠ 300 + w by omega)] at h1
    rw [ov_rs_ne (show 310 + i ≠ 2 + w by omega), ov_rs_ne (show 310 + i ≠ 300 + w by omega)]
    exact K.2.2.1 i h0 h1
  · have b1 := bb.1
    have e2 : 1 ≤ ov_rs (ov_rs A (300 + w) 1) (2 + w) v 2 := by
      by_cases q0 : w = 0
      · have e := hz q0
        subst q0
        exact Int.le_trans e (Int.le_of_eq (ov_rs_eq _ _ _).symm)
      · rw [ov_rs_ne (show (2 : Int) ≠ 2 + w by omega), ov_rs_ne (show (2 : Int) ≠ 300 + w by omega)]
        omega
    by_cases q : w = 4
    · have e := hv q
      subst q
      subst e
      rw [ov_rs_ne (show (0 : Int) ≠ 2 + 4 by decide), ov_rs_ne (show (1 : Int) ≠ 2 + 4 by decide), ov_rs_ne (show (8 : Int) ≠ 2 + 4 by decide), ov_rs_ne (show (9 : Int) ≠ 2 + 4 by decide), ov_rs_ne (show (304 : Int) ≠ 2 + 4 by decide), ov_rs_ne (show (0 : Int) ≠ 300 + 4 by decide), ov_rs_ne (show (1 : Int) ≠ 300 + 4 by decide), ov_rs_ne (show (8 : Int) ≠ 300 + 4 by decide), ov_rs_ne (show (9 : Int) ≠ 300 + 4 by decide)]
      have e1 : ov_rs (ov_rs A (300 + 4) 1) (2 + 4) 1 6 = 1 := ov_rs_eq _ _ _
      have e2 : ov_rs A (300 + 4) 1 304 = 1 := ov_rs_eq _ _ _
      rw [e1, e2]
      omega
    · rw [ov_rs_ne (show (0 : Int) ≠ 2 + w by omega), ov_rs_ne (show (1 : Int) ≠ 2 + w by omega), ov_rs_ne (show (8 : Int) ≠ 2 + w by omega), ov_rs_ne (show (9 : Int) ≠ 2 + w by omega), ov_rs_ne (show (6 : Int) ≠ 2 + w by omega), ov_rs_ne (show (304 : Int) ≠ 2 + w by omega), ov_rs_ne (show (0 : Int) ≠ 300 + w by omega), ov_rs_ne (show (1 : Int) ≠ 300 + w by omega), ov_rs_ne (show (8 : Int) ≠ 300 + w by omega), ov_rs_ne (show (9 : Int) ≠ 300 + w by omega), ov_rs_ne (show (6 : Int) ≠ 300 + w by omega), ov_rs_ne (show (304 : Int) ≠ 300 + w by omega)]
      omega
/-- a rule -/
theorem pt_MR_rule (K : pt_MR t m A r tb nm) {a c : Int} (h8 : A 8 < 4) (hw : pt_ty t m a = 2) : pt_MR t m (ov_rs (ov_rs A (310 + A 8) a) 8 (A 8 + 1)) (ov_rs (ov_rs r (620 + A 8) c) 348 (A 8 + 1)) tb (ov_rs nm (A 8) (pt_w37 t m a)) := by
  have rr := K.2.2.2
  refine ⟨fun i h0 h1 => ?_, fun s h0 h1 => ?_, fun i h0 h1 => ?_, ?_⟩
  · by_cases q : i = 8
    · rw [q, ov_rs_eq]
      exact ov_rs_eq _ _ _
    · rw [ov_rs_ne q, ov_rs_ne (show i ≠ 310 + A 8 by omega), ov_rs_ne (show 340 + i ≠ 348 by omega), ov_rs_ne (show 340 + i ≠ 620 + A 8 by omega)]
      exact K.1 i h0 h1
  · rw [ov_rs_ne (show 300 + s ≠ 8 by omega), ov_rs_ne (show 300 + s ≠ 310 + A 8 by omega)]
    exact K.2.1 s h0 h1
  · rw [ov_rs_eq] at h1
    rw [ov_rs_ne (show 310 + i ≠ 8 by omega)]
    by_cases q : i = A 8
    · rw [q, ov_rs_eq, ov_rs_eq]
      exact ⟨rfl, hw⟩
    · rw [ov_rs_ne q, ov_rs_ne (show 310 + i ≠ 310 + A 8 by omega)]
      exact K.2.2.1 i h0 (by omega)
  · rw [ov_rs_ne (show (0 : Int) ≠ 8 by decide), ov_rs_ne (show (1 : Int) ≠ 8 by decide), ov_rs_eq, ov_rs_ne (show (9 : Int) ≠ 8 by decide), ov_rs_ne (show (6 : Int) ≠ 8 by decide), ov_rs_ne (show (304 : Int) ≠ 8 by decide), ov_rs_ne (show (0 : Int) ≠ 310 + A 8 by omega), ov_rs_ne (show (1 : Int) ≠ 310 + A 8 by omega), ov_rs_ne (show (9 : Int) ≠ 310 + A 8 by omega), ov_rs_ne (show (6 : Int) ≠ 310 + A 8 by omega), ov_rs_ne (show (304 : Int) ≠ 310 + A 8 by omega), ov_rs_ne (show (2 : Int) ≠ 8 by decide), ov_rs_ne (show (2 : Int) ≠ 310 + A 8 by omega)]
    omega
/-- a light -/
theorem pt_MR_light (K : pt_MR t m A r tb nm) {C kd cm rd st sp : Int} (hC : 0 ≤ C ∧ C < 54) (hc : 1 ≤ cm ∧ cm ≤ 1200) : pt_MR t m (pt_liB A C kd cm rd st sp) (ov_rs (ov_rs (ov_rs (ov_rs (ov_rs (ov_rs r 349 cm) (350 + 4 * C) (1 + kd)) (351 + 4 * C) rd) (352 + 4 * C) st) (353 + 4 * C) sp) 347 (ov_w (A 7 + 1))) tb nm := by
  have k1 := pt_MR_set (pt_MR_9 K hc) (j := 10 + 4 * C) (v := 1 + kd) (by omega)
  have k2 := pt_MR_set k1 (j := 11 + 4 * C) (v := rd) (by omega)
  have k3 := pt_MR_set k2 (j := 12 + 4 * C) (v := st) (by omega)
  have k4 := pt_MR_set k3 (j := 13 + 4 * C) (v := sp) (by omega)
  have k5 := pt_MR_set k4 (j := 7) (v := ov_w (A 7 + 1)) (by omega)
  rw [show (340 : Int) + (10 + 4 * C) = 350 + 4 * C by omega, show (340 : Int) + (11 + 4 * C) = 351 + 4 * C by omega, show (340 : Int) + (12 + 4 * C) = 352 + 4 * C by omega, show (340 : Int) + (13 + 4 * C) = 353 + 4 * C by omega, show (340 : Int) + 7 = 347 from rfl] at k5
  exact k5
/-- at first -/
theorem pt_MR_first {w l : Int} (hw : 1 ≤ w ∧ w ≤ 6) (hl : 1 ≤ l ∧ l ≤ 9) (e : ∀ j : Int, 0 ≤ j → j < 340 → r (340 + j) = pt_A0 0 0 j) : pt_MR t m (pt_A0 w l) (ov_rs (ov_rs r 340 w) 341 l) 0 nm := by
  refine ⟨fun i h0 h1 => ?_, fun s h0 h1 => ?_, fun i h0 h1 => ?_, ?_⟩
  · by_cases q1 : i = 1
    · rw [q1]
      exact (ov_rs_eq _ _ _).trans (by unfold pt_A0; rw [if_neg (by decide), if_pos rfl])
    · rw [ov_rs_ne (show 340 + i ≠ 341 by omega)]
      by_cases q0 : i = 0
      · rw [q0]
        exact (ov_rs_eq _ _ _).trans (by unfold pt_A0; rw [if_pos rfl])
      · rw [ov_rs_ne (show 340 + i ≠ 340 by omega), e i h0 (by omega)]
        unfold pt_A0
        rw [if_neg q0, if_neg q1, if_neg q0, if_neg q1]
  · have z : ov_and (ov_shr 0 s) 1 = 0 := by
      have c : s = 0 ∨ s = 1 ∨ s = 2 ∨ s = 3 ∨ s = 4 := by omega
      rcases c with rfl | rfl | rfl | rfl | rfl <;> decide +kernel
    have y : pt_A0 w l (300 + s) = 0 := by
      unfold pt_A0
      rw [if_neg (by omega), if_neg (by omega), if_neg (by omega), if_neg (by omega), if_neg (by omega)]
    rw [y]
    exact ⟨Or.inl rfl, z⟩
  · have y : pt_A0 w l 8 = 0 := by
      unfold pt_A0
      rw [if_neg (by decide), if_neg (by decide), if_neg (by decide), if_neg (by decide), if_neg (by decide)]
    rw [y] at h1
    omega
  · have y0 : pt_A0 w l 0 = w := by unfold pt_A0; rw [if_pos rfl]
    have y1 : pt_A0 w l 1 = l := by unfold pt_A0; rw [if_neg (by decide), if_pos rfl]
    have y8 : pt_A0 w l 8 = 0 := by
      unfold pt_A0
      rw [if_neg (by decide), if_neg (by decide), if_neg (by decide), if_neg (by decide), if_neg (by decide)]
    have y9 : pt_A0 w l 9 = 1 := by
      unfold pt_A0
      rw [if_neg (by decide), if_neg (by decide), if_neg (by decide), if_neg (by decide), if_pos rfl]
    have y6 : pt_A0 w l 6 = pt_A0 w l 304 := by
      unfold pt_A0
      rw [if_neg (by decide), if_neg (by decide), if_neg (by decide), if_neg (by decide), if_neg (by decide), if_neg (by decide), if_neg (by decide), if_neg (by decide), if_neg (by decide), if_neg (by decide)]
    have y2 : pt_A0 w l 2 = 10 := by
      unfold pt_A0
      rw [if_neg (by decide), if_neg (by decide), if_pos rfl]
    rw [y0, y1, y8, y9, y2]
    exact ⟨hw.1, hw.2, hl.1, hl.2, by decide, by decide, by decide, by decide, y6, by decide, by decide, by decide⟩
end
/-! names met already -/
theorem pt_met_h {f : Int → Int} {V k : Int} (hk : 0 ≤ k) (e : f k = V) : (1 : Int) = 1 ↔ ∃ i : Int, 0 ≤ i ∧ i < k + 1 ∧ f i = V := ⟨fun _ => ⟨k, hk, by omega, e⟩, fun _ => rfl⟩
theorem pt_met_y {f : Int → Int} {V k x : Int} (h : x = 1 ↔ ∃ i : Int, 0 ≤ i ∧ i < k ∧ f i = V) (hx : x = 1) : (1 : Int) = 1 ↔ ∃ i : Int, 0 ≤ i ∧ i < k + 1 ∧ f i = V := by
  obtain ⟨i, a, b, c⟩ := h.mp hx
  exact ⟨fun _ => ⟨i, a, by omega, c⟩, fun _ => rfl⟩
theorem pt_met_n {f : Int → Int} {V k x : Int} (h : x = 1 ↔ ∃ i : Int, 0 ≤ i ∧ i < k ∧ f i = V) (hx : x = 0) (e : f k ≠ V) : (0 : Int) = 1 ↔ ∃ i : Int, 0 ≤ i ∧ i < k + 1 ∧ f i = V := by
  refine ⟨fun q => absurd q (by decide), fun ⟨i, a, b, c⟩ => ?_⟩
  by_cases q : i = k
  · rw [q] at c
    exact absurd c e
  · have y := h.mpr ⟨i, a, by omega, c⟩
    omega
theorem pt_met_0 {f : Int → Int} {V : Int} : (0 : Int) = 1 ↔ ∃ i : Int, 0 ≤ i ∧ i < 0 ∧ f i = V := ⟨fun q => absurd q (by decide), fun ⟨i, a, b, _⟩ => by omega⟩
theorem pt_KN_i {t : Int → Int} {m : Int} {A r nm : Int → Int} {tb q V : Int} (K : pt_MR t m A r tb nm) (hq : pt_ty t m q = 2) (hv : V = pt_w37 t m q) : (∃ i : Int, 0 ≤ i ∧ i < A 8 ∧ nm i = V) ↔ pt_KN t m A q := by
  constructor
  · rintro ⟨i, a, b, c⟩
    have w := K.2.2.1 i a b
    exact ⟨i, a, b, (pt_w_i w.2 hq).mpr (by rw [← w.1, c, hv])⟩
  · rintro ⟨i, a, b, c⟩
    have w := K.2.2.1 i a b
    exact ⟨i, a, b, by rw [w.1, hv]; exact (pt_w_i w.2 hq).mp c⟩
theorem pt_sa {r : Int → Int} {a : Int} (ha : a = 340) (e : ∀ j : Int, 0 ≤ j → j < 340 → r (a + j) = 0) : ∀ j : Int, 0 ≤ j → j < 340 → ov_rs (ov_rs (ov_rs (ov_rs r (a + 2) 10) (a + 3) (-1)) (a + 4) (-1)) (a + 9) 1 (340 + j) = pt_A0 0 0 j := by
  subst ha
  intro j h0 h1
  unfold pt_A0
  by_cases q9 : j = 9
  · subst q9
    exact (ov_rs_eq _ _ _).trans (by rw [if_neg (by decide), if_neg (by decide), if_neg (by decide), if_neg (by decide), if_pos rfl])
  · rw [ov_rs_ne (by omega)]
    by_cases q4 : j = 4
    · subst q4
      exact (ov_rs_eq _ _ _).trans (by rw [if_neg (by decide), if_neg (by decide), if_neg (by decide), if_pos (by decide)])
    · rw [ov_rs_ne (by omega)]
      by_cases q3 : j = 3
      · subst q3
        exact (ov_rs_eq _ _ _).trans (by rw [if_neg (by decide), if_neg (by decide), if_neg (by decide), if_pos (by decide)])
      · rw [ov_rs_ne (by omega)]
        by_cases q2 : j = 2
        · subst q2
          exact (ov_rs_eq _ _ _).trans (by rw [if_neg (by decide), if_neg (by decide), if_pos rfl])
        · rw [ov_rs_ne (by omega), e j h0 h1]
          (repeat' split) <;> omega
theorem pt_wt_ty {t : Int → Int} {m p : Int} (h : 0 ≤ pt_wt t m p) : pt_ty t m p = 2 := by
  unfold pt_wt at h
  split at h
  · exact (pt_iw_i.mp (by assumption)).1
  · split at h
    · exact (pt_iw_i.mp (by assumption)).1
    · omega
theorem pt_kt_ty {t : Int → Int} {m p : Int} (h : 0 ≤ pt_kt t m p) : pt_ty t m p = 2 := by
  unfold pt_kt at h
  split at h
  · exact (pt_iw_i.mp (by assumption)).1
  · split at h
    · exact (pt_iw_i.mp (by assumption)).1
    · split at h
      · exact (pt_iw_i.mp (by assumption)).1
      · split at h
        · exact (pt_iw_i.mp (by assumption)).1
        · omega

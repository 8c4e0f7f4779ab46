/-! the soonest that one can be home, by the rows of a town of the class: its fields, kind, round, start, span, setting, open -/
abbrev ov_TW : Type := (Int → Int) × (Int → Int) × (Int → Int) × (Int → Int) × (Int → Int) × (Int → Int) × (Int → Int)
def ov_hmf (f : ov_TW) : Int := (f.1 1 - 1) * 6 + f.1 0 - 1
def ov_fwc (f : ov_TW) (c way t : Int) : Int := t + ov_wtv (f.2.1 c) (f.2.2.1 c) (f.2.2.2.1 c) (f.2.2.2.2.1 c) way t + f.2.2.2.2.2.1 0
def ov_ob (f : ov_TW) (c way : Int) : Int := if way = 0 then f.2.2.2.2.2.2 c % 2 else f.2.2.2.2.2.2 c / 2
/-- what the rows of a town in use keep -/
def ov_OKf (f : ov_TW) : Prop := (∀ c : Int, 0 ≤ f.2.2.1 c ∧ f.2.2.1 c ≤ 60) ∧ (∀ c : Int, 0 ≤ f.2.2.2.1 c ∧ f.2.2.2.1 c ≤ 59) ∧ (∀ c : Int, 0 ≤ f.2.2.2.2.1 c ∧ f.2.2.2.2.1 c ≤ 60) ∧ (0 ≤ f.2.2.2.2.2.1 0 ∧ f.2.2.2.2.2.1 0 ≤ 30) ∧ (0 ≤ ov_hmf f ∧ ov_hmf f ≤ 53) ∧ ∀ c : Int, 0 ≤ c → c ≤ 53 → (ov_ob f c 0 = 1 → c ≤ 52) ∧ (ov_ob f c 1 = 1 → c ≤ 47)
theorem ov_fwc_mono {f : ov_TW} (O : ov_OKf f) {c way t t2 : Int} (ht : t ≤ t2) : ov_fwc f c way t ≤ ov_fwc f c way t2 := by
  have := ov_wtv_mono (kd := f.2.1 c) (rd := f.2.2.1 c) (st := f.2.2.2.1 c) (sp := f.2.2.2.2.1 c) (way := way) (O.1 c).1 ht
  unfold ov_fwc
  omega
theorem ov_fwc_rng {f : ov_TW} (O : ov_OKf f) {c way t : Int} : t ≤ ov_fwc f c way t ∧ ov_fwc f c way t ≤ t + 90 := by
  have h1 := ov_wtv_rng (kd := f.2.1 c) (way := way) (t := t) (O.1 c) (O.2.1 c) (O.2.2.1 c)
  have h2 := O.2.2.2.1
  unfold ov_fwc
  omega
def ov_ES (f : ov_TW) : Nat → Int → Int → Int
  | 0, _, _ => 2000000000
  | k + 1, c, t => if c = ov_hmf f then t else min (if ov_ob f c 0 = 1 then ov_ES f k (c + 1) (ov_fwc f c 0 t) else 2000000000) (if ov_ob f c 1 = 1 then ov_ES f k (c + 6) (ov_fwc f c 1 t) else 2000000000)
theorem ov_ES_far {f : ov_TW} : ∀ (k : Nat) (c t : Int), ov_hmf f < c → ov_ES f k c t = 2000000000
  | 0, _, _, _ => rfl
  | k + 1, c, t, hc => by
    show (if c = ov_hmf f then t else _) = _
    rw [if_neg (by omega), ov_ES_far k (c + 1) _ (by omega), ov_ES_far k (c + 6) _ (by omega)]
    repeat' split
    all_goals omega
theorem ov_ES_fuel {f : ov_TW} : ∀ (k m : Nat) (c t : Int), ov_hmf f - c < (k : Int) → ov_hmf f - c < (m : Int) → ov_ES f k c t = ov_ES f m c t
  | 0, m, c, t, h1, _ => (ov_ES_far m c t (by omega)).symm
  | k + 1, 0, c, t, _, h2 => ov_ES_far (k + 1) c t (by omega)
  | k + 1, m + 1, c, t, h1, h2 => by
    show (if c = ov_hmf f then t else _) = (if c = ov_hmf f then t else _)
    rw [ov_ES_fuel k m (c + 1) _ (by omega) (by omega), ov_ES_fuel k m (c + 6) _ (by omega) (by omega)]
theorem ov_ES_mono {f : ov_TW} (O : ov_OKf f) : ∀ (k : Nat) (c t t2 : Int), t ≤ t2 → ov_ES f k c t ≤ ov_ES f k c t2
  | 0, _, _, _, _ => Int.le_refl _
  | k + 1, c, t, t2, ht => by
    have i0 := ov_ES_mono O k (c + 1) _ _ (ov_fwc_mono O (c := c) (way := 0) ht)
    have i1 := ov_ES_mono O k (c + 6) _ _ (ov_fwc_mono O (c := c) (way := 1) ht)
    show (if c = ov_hmf f then t else _) ≤ (if c = ov_hmf f then t2 else _)
    by_cases hq : c = ov_hmf f
    · rw [if_pos hq, if_pos hq]
      exact ht
    · rw [if_neg hq, if_neg hq]
      by_cases a0 : ov_ob f c 0 = 1 <;> by_cases a1 : ov_ob f c 1 = 1 <;> simp only [a0, a1, if_true, if_false] <;> omega
theorem ov_ES_rng {f : ov_TW} (O : ov_OKf f) : ∀ (k : Nat) (c t : Int), 0 ≤ t → t + 90 * (k : Int) < 2000000000 → 0 ≤ ov_ES f k c t ∧ ov_ES f k c t ≤ 2000000000
  | 0, _, _, _, _ => ⟨by show (0 : Int) ≤ 2000000000; omega, Int.le_refl _⟩
  | k + 1, c, t, h0, h1 => by
    have f0 := ov_fwc_rng O (c := c) (way := 0) (t := t)
    have f1 := ov_fwc_rng O (c := c) (way := 1) (t := t)
    have i0 := ov_ES_rng O k (c + 1) (ov_fwc f c 0 t) (by omega) (by omega)
    have i1 := ov_ES_rng O k (c + 6) (ov_fwc f c 1 t) (by omega) (by omega)
    show 0 ≤ (if c = ov_hmf f then t else _) ∧ (if c = ov_hmf f then t else _) ≤ 2000000000
    by_cases hq : c = ov_hmf f
    · rw [if_pos hq]
      omega
    · rw [if_neg hq]
      by_cases a0 : ov_ob f c 0 = 1 <;> by_cases a1 : ov_ob f c 1 = 1 <;> simp only [a0, a1, if_true, if_false] <;> omega
/-- when one is home from a corner at a second; too far: never -/
def ov_SA (f : ov_TW) (c t : Int) : Int := ov_ES f 60 c t
theorem ov_SA_home {f : ov_TW} {c t : Int} (hq : c = ov_hmf f) : ov_SA f c t = t := by
  show (if c = ov_hmf f then t else _) = t
  rw [if_pos hq]
theorem ov_SA_far {f : ov_TW} {c t : Int} (hq : ov_hmf f < c) : ov_SA f c t = 2000000000 := ov_ES_far 60 c t hq
theorem ov_SA_mono {f : ov_TW} (O : ov_OKf f) {c t t2 : Int} (ht : t ≤ t2) : ov_SA f c t ≤ ov_SA f c t2 := ov_ES_mono O 60 c t t2 ht
theorem ov_SA_rng {f : ov_TW} (O : ov_OKf f) {c t : Int} (h0 : 0 ≤ t) (h1 : t ≤ 1100000) : 0 ≤ ov_SA f c t ∧ ov_SA f c t ≤ 2000000000 := ov_ES_rng O 60 c t h0 (by omega)
theorem ov_SA_eq {f : ov_TW} (O : ov_OKf f) {c t : Int} (h0 : 0 ≤ c) (hq : ¬ c = ov_hmf f) : ov_SA f c t = min (if ov_ob f c 0 = 1 then ov_SA f (c + 1) (ov_fwc f c 0 t) else 2000000000) (if ov_ob f c 1 = 1 then ov_SA f (c + 6) (ov_fwc f c 1 t) else 2000000000) := by
  have hm := O.2.2.2.2.1
  show (if c = ov_hmf f then t else min (if ov_ob f c 0 = 1 then ov_ES f 59 (c + 1) (ov_fwc f c 0 t) else 2000000000) (if ov_ob f c 1 = 1 then ov_ES f 59 (c + 6) (ov_fwc f c 1 t) else 2000000000)) = _
  rw [if_neg hq, ov_ES_fuel 59 60 (c + 1) _ (by omega) (by omega), ov_ES_fuel 59 60 (c + 6) _ (by omega) (by omega)]
  rfl
theorem ov_SA_le {f : ov_TW} (O : ov_OKf f) {c t : Int} (h0 : 0 ≤ c) (hq : ¬ c = ov_hmf f) : (ov_ob f c 0 = 1 → ov_SA f c t ≤ ov_SA f (c + 1) (ov_fwc f c 0 t)) ∧ (ov_ob f c 1 = 1 → ov_SA f c t ≤ ov_SA f (c + 6) (ov_fwc f c 1 t)) := by
  rw [ov_SA_eq O h0 hq]
  refine ⟨fun a => ?_, fun a => ?_⟩
  · rw [if_pos a]
    exact Int.min_le_left _ _
  · rw [if_pos (c := ov_ob f c 1 = 1) a]
    exact Int.min_le_right _ _
theorem ov_SA_or {f : ov_TW} (O : ov_OKf f) {c t : Int} (h0 : 0 ≤ c) (hq : ¬ c = ov_hmf f) (hF : ¬ ov_SA f c t = 2000000000) : (ov_ob f c 0 = 1 ∧ ov_SA f (c + 1) (ov_fwc f c 0 t) = ov_SA f c t) ∨ (ov_ob f c 1 = 1 ∧ ov_SA f (c + 6) (ov_fwc f c 1 t) = ov_SA f c t) := by
  have e := ov_SA_eq O (t := t) h0 hq
  by_cases a0 : ov_ob f c 0 = 1 <;> by_cases a1 : ov_ob f c 1 = 1 <;> simp only [a0, a1, if_true, if_false] at e <;> omega
/-- the class's lesser of two seconds, -1 being none -/
def ov_les (a b : Int) : Int := if a = -1 then b else if b = -1 then a else min a b
def ov_nxc (c way : Int) : Int := if way = 0 then c + 1 else c + 6
/-- what pass does to the row of arrivals -/
def ov_PA (f : ov_TW) (c way : Int) (a b : Int → Int) : Prop := (∀ j : Int, j ≠ ov_nxc c way → b j = a j) ∧ (ov_ob f c way = 1 → b (ov_nxc c way) = ov_les (a (ov_nxc c way)) (ov_fwc f c way (a c))) ∧ (¬ ov_ob f c way = 1 → b (ov_nxc c way) = a (ov_nxc c way))
def ov_AL (f : ov_TW) (V x : Int) (a : Int → Int) : Prop := ∀ j : Int, x ≤ j → j ≤ 53 → a j = -1 ∨ (0 ≤ a j ∧ a j ≤ 1002000 + 90 * j ∧ V ≤ ov_SA f j (a j))
def ov_AX (f : ov_TW) (V x : Int) (a : Int → Int) : Prop := V = 2000000000 ∨ ∃ j : Int, x ≤ j ∧ j ≤ 53 ∧ a j ≠ -1 ∧ ov_SA f j (a j) = V
theorem ov_nxc_le {f : ov_TW} (O : ov_OKf f) {c way : Int} (hc : 0 ≤ c ∧ c ≤ 53) (hw : way = 0 ∨ way = 1) (ho : ov_ob f c way = 1) : c < ov_nxc c way ∧ ov_nxc c way ≤ 53 := by
  have h := O.2.2.2.2.2 c hc.1 hc.2
  unfold ov_nxc
  rcases hw with rfl | rfl
  · have := h.1 ho
    rw [if_pos rfl]
    omega
  · have := h.2 ho
    rw [if_neg (by decide)]
    omega
theorem ov_les_sp {a b : Int} (hb : ¬ b = -1) : ov_les a b ≤ b ∧ (¬ a = -1 → ov_les a b ≤ a) ∧ (ov_les a b = b ∨ (¬ a = -1 ∧ ov_les a b = a)) := by
  unfold ov_les
  by_cases q : a = -1
  · rw [if_pos q]
    omega
  · rw [if_neg q, if_neg hb]
    omega
/-- one pass: lower bounds stay, and the way's end is no later than by this way -/
theorem ov_PA_low {f : ov_TW} (O : ov_OKf f) {V x way : Int} {a b : Int → Int} (hx : 0 ≤ x ∧ x ≤ 53) (hw : way = 0 ∨ way = 1) (hh : ¬ x = ov_hmf f) (hn : ¬ a x = -1) (L : ov_AL f V x a) (P : ov_PA f x way a b) : ov_AL f V x b ∧ b x = a x ∧ (ov_ob f x way = 1 → ¬ b (ov_nxc x way) = -1 ∧ b (ov_nxc x way) ≤ ov_fwc f x way (a x)) := by
  have l0 : 0 ≤ a x ∧ a x ≤ 1002000 + 90 * x ∧ V ≤ ov_SA f x (a x) := (L x (Int.le_refl _) hx.2).resolve_left hn
  have fr := ov_fwc_rng O (c := x) (way := way) (t := a x)
  have bx : b x = a x := P.1 x (by unfold ov_nxc; split <;> omega)
  by_cases ho : ov_ob f x way = 1
  · have nl := ov_nxc_le O hx hw ho
    have eb := P.2.1 ho
    have ls := ov_les_sp (a := a (ov_nxc x way)) (b := ov_fwc f x way (a x)) (by omega)
    have sv : V ≤ ov_SA f (ov_nxc x way) (ov_fwc f x way (a x)) := by
      have := ov_SA_le O (t := a x) hx.1 hh
      rcases hw with rfl | rfl
      · exact Int.le_trans l0.2.2 (this.1 ho)
      · exact Int.le_trans l0.2.2 (this.2 ho)
    have an : a (ov_nxc x way) = -1 ∨ (0 ≤ a (ov_nxc x way) ∧ a (ov_nxc x way) ≤ 1002000 + 90 * ov_nxc x way ∧ V ≤ ov_SA f (ov_nxc x way) (a (ov_nxc x way))) := L (ov_nxc x way) (by omega) nl.2
    refine ⟨fun j h1 h2 => ?_, bx, fun _ => ⟨by rw [eb]; omega, by rw [eb]; exact ls.1⟩⟩
    by_cases hj : j = ov_nxc x way
    · rw [hj, eb]
      rcases ls.2.2 with e | ⟨q, e⟩
      · rw [e]
        exact Or.inr ⟨by omega, by omega, sv⟩
      · rw [e]
        exact an
    · rw [P.1 j hj]
      exact L j h1 h2
  · have eb := P.2.2 ho
    refine ⟨fun j h1 h2 => ?_, bx, fun q => absurd q ho⟩
    by_cases hj : j = ov_nxc x way
    · rw [hj, eb]
      exact L _ (by omega) (by omega)
    · rw [P.1 j hj]
      exact L j h1 h2
theorem ov_PA_ex {f : ov_TW} (O : ov_OKf f) {V x way : Int} {a b : Int → Int} (hx : 0 ≤ x ∧ x ≤ 53) (hw : way = 0 ∨ way = 1) (hh : ¬ x = ov_hmf f) (hn : ¬ a x = -1) (L : ov_AL f V x a) (X : ov_AX f V x a) (P : ov_PA f x way a b) : ov_AX f V x b := by
  obtain ⟨Lb, bx, -⟩ := ov_PA_low O hx hw hh hn L P
  have l0 : 0 ≤ a x ∧ a x ≤ 1002000 + 90 * x ∧ V ≤ ov_SA f x (a x) := (L x (Int.le_refl _) hx.2).resolve_left hn
  have fr := ov_fwc_rng O (c := x) (way := way) (t := a x)
  rcases X with X | ⟨j, h1, h2, h3, h4⟩
  · exact Or.inl X
  · refine Or.inr ⟨j, h1, h2, ?_⟩
    by_cases hj : j = ov_nxc x way
    · by_cases ho : ov_ob f x way = 1
      · have eb := P.2.1 ho
        have ls := ov_les_sp (a := a (ov_nxc x way)) (b := ov_fwc f x way (a x)) (by omega)
        rw [← hj] at eb ls
        have le : b j ≤ a j := by rw [eb]; exact ls.2.1 h3
        have nn : ¬ b j = -1 := by
          rw [eb]
          rcases ls.2.2 with e | ⟨q, e⟩ <;> rw [e]
          · omega
          · exact h3
        have m := ov_SA_mono O (c := j) le
        have l := (Lb j h1 h2).resolve_left nn
        exact ⟨nn, by omega⟩
      · have eb := P.2.2 ho
        rw [← hj] at eb
        rw [eb]
        exact ⟨h3, h4⟩
    · rw [P.1 j hj]
      exact ⟨h3, h4⟩
/-- both ways of a corner passed: the next corner is in order -/
theorem ov_PA_both {f : ov_TW} (O : ov_OKf f) {V x : Int} {a b e : Int → Int} (hx : 0 ≤ x ∧ x ≤ 53) (hh : ¬ x = ov_hmf f) (hn : ¬ a x = -1) (L : ov_AL f V x a) (X : ov_AX f V x a) (P0 : ov_PA f x 0 a b) (P1 : ov_PA f x 1 b e) : ov_AL f V (x + 1) e ∧ ov_AX f V (x + 1) e := by
  obtain ⟨Lb, bx, b0⟩ := ov_PA_low O hx (Or.inl rfl) hh hn L P0
  have Xb := ov_PA_ex O hx (Or.inl rfl) hh hn L X P0
  have hn2 : ¬ b x = -1 := by rw [bx]; exact hn
  obtain ⟨Le, ex, e1⟩ := ov_PA_low O hx (Or.inr rfl) hh hn2 Lb P1
  have Xe := ov_PA_ex O hx (Or.inr rfl) hh hn2 Lb Xb P1
  rw [bx] at e1
  have n0 : ov_nxc x 0 = x + 1 := rfl
  have n1 : ov_nxc x 1 = x + 6 := rfl
  rw [n0] at b0
  rw [n1] at e1
  have e0 : e (x + 1) = b (x + 1) := P1.1 (x + 1) (by rw [n1]; omega)
  refine ⟨fun j h1 h2 => Le j (by omega) h2, ?_⟩
  rcases Xe with Xe | ⟨j, h1, h2, h3, h4⟩
  · exact Or.inl Xe
  · by_cases hj : j = x
    · by_cases hV : V = 2000000000
      · exact Or.inl hV
      · rw [hj, ex, bx] at h4
        have os := ov_SA_or O (t := a x) hx.1 hh (by omega)
        rcases os with ⟨o, q⟩ | ⟨o, q⟩
        · have bb := b0 o
          have nl := ov_nxc_le O hx (Or.inl rfl) o
          rw [n0] at nl
          refine Or.inr ⟨x + 1, Int.le_refl _, nl.2, by rw [e0]; exact bb.1, ?_⟩
          have m := ov_SA_mono O (c := x + 1) bb.2
          have l := (Lb (x + 1) (by omega) nl.2).resolve_left bb.1
          rw [e0]
          omega
        · have bb := e1 o
          have nl := ov_nxc_le O hx (Or.inr rfl) o
          rw [n1] at nl
          refine Or.inr ⟨x + 6, by omega, nl.2, bb.1, ?_⟩
          have m := ov_SA_mono O (c := x + 6) bb.2
          have l := (Le (x + 6) (by omega) nl.2).resolve_left bb.1
          omega
    · exact Or.inr ⟨j, by omega, h2, h3, h4⟩
/-- a corner that is not come to -/
theorem ov_PA_none {f : ov_TW} {V x : Int} {a : Int → Int} (hn : a x = -1) (L : ov_AL f V x a) (X : ov_AX f V x a) : ov_AL f V (x + 1) a ∧ ov_AX f V (x + 1) a := by
  refine ⟨fun j h1 h2 => L j (by omega) h2, ?_⟩
  rcases X with X | ⟨j, h1, h2, h3, h4⟩
  · exact Or.inl X
  · exact Or.inr ⟨j, by
      by_cases hj : j = x
      · rw [hj] at h3
        exact absurd hn h3
      · omega, h2, h3, h4⟩
/-- the answer at home -/
theorem ov_PA_end {f : ov_TW} (O : ov_OKf f) {V x r : Int} {a : Int → Int} (hx : ov_hmf f ≤ x) (hlo : x ≤ ov_hmf f ∨ a (ov_hmf f) = -1 ∧ V = 2000000000) (hr : a (ov_hmf f) = r) (L : ov_AL f V x a) (X : ov_AX f V x a) : (r = -1 ∧ V = 2000000000) ∨ (r = V ∧ 0 ≤ r ∧ r ≤ 1012000) := by
  have hm := O.2.2.2.2.1
  rcases hlo with hlo | hlo
  · have ex : x = ov_hmf f := by omega
    rw [ex] at L X
    by_cases hn : r = -1
    · refine Or.inl ⟨hn, ?_⟩
      rcases X with X | ⟨j, h1, h2, h3, h4⟩
      · exact X
      · by_cases hj : j = ov_hmf f
        · rw [hj, hr] at h3
          exact absurd hn h3
        · rw [← h4]
          exact ov_SA_far (by omega)
    · have l := (L (ov_hmf f) (Int.le_refl _) hm.2).resolve_left (by rw [hr]; exact hn)
      rw [hr, ov_SA_home rfl] at l
      refine Or.inr ⟨?_, l.1, by omega⟩
      rcases X with X | ⟨j, h1, h2, h3, h4⟩
      · omega
      · by_cases hj : j = ov_hmf f
        · rw [hj, hr, ov_SA_home rfl] at h4
          exact h4
        · rw [ov_SA_far (by omega)] at h4
          omega
  · exact Or.inl ⟨by rw [← hr]; exact hlo.1, hlo.2⟩
/-- the way on, where over is not as soon -/
theorem ov_SA_on {f : ov_TW} (O : ov_OKf f) {c t e : Int} (h0 : 0 ≤ c) (hq : ¬ c = ov_hmf f) (he : ov_SA f c t = e) (hF : ¬ e = 2000000000) (h1 : ¬ (ov_ob f c 0 = 1 ∧ ov_SA f (c + 1) (ov_fwc f c 0 t) = e)) : ov_ob f c 1 = 1 ∧ ov_SA f (c + 6) (ov_fwc f c 1 t) = e := by
  have := ov_SA_or O (t := t) h0 hq (by omega)
  rw [he] at this
  exact this.resolve_left h1
theorem ov_SA_hm {f : ov_TW} {c t : Int} (hF : ¬ ov_SA f c t = 2000000000) : c ≤ ov_hmf f := by
  by_cases q : c ≤ ov_hmf f
  · exact q
  · exact absurd (ov_SA_far (by omega)) hF
theorem ov_ob_sp {x way : Int} (hx : 0 ≤ x ∧ x ≤ 3) : (way = 0 → ov_and (ov_shr x way) 1 = x % 2) ∧ (way = 1 → ov_and (ov_shr x way) 1 = x / 2) := by
  have h : x = 0 ∨ x = 1 ∨ x = 2 ∨ x = 3 := by omega
  refine ⟨fun e => ?_, fun e => ?_⟩ <;> rw [e] <;> rcases h with rfl | rfl | rfl | rfl <;> decide +kernel

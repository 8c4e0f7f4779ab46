/-! the reference's reader: rows that change, codes that run -/
/-- the town in use and its codes stay -/
def ov_MK (f g p f' g' p' : Int → Int) : Prop := (∀ j : Int, j < 340 → f' j = f j) ∧ (∀ j : Int, j < 1100 → g' j = g j) ∧ ∀ j : Int, j < 1100 → p' j = p j
theorem ov_MK_refl (f g p : Int → Int) : ov_MK f g p f g p := ⟨fun _ _ => rfl, fun _ _ => rfl, fun _ _ => rfl⟩
theorem ov_MK_trans {f g p f' g' p' f2 g2 p2 : Int → Int} (a : ov_MK f g p f' g' p') (b : ov_MK f' g' p' f2 g2 p2) : ov_MK f g p f2 g2 p2 :=
  ⟨fun j hj => by rw [b.1 j hj, a.1 j hj], fun j hj => by rw [b.2.1 j hj, a.2.1 j hj], fun j hj => by rw [b.2.2 j hj, a.2.2 j hj]⟩
theorem ov_MK_1 {f g p f' g' p' : Int → Int} {k v : Int} (a : ov_MK f g p f' g' p') (hk : 340 ≤ k) : ov_MK f g p (ov_rs f' k v) g' p' :=
  ⟨fun j hj => by rw [ov_rs_ne (by omega)]; exact a.1 j hj, a.2.1, a.2.2⟩
/-- lights of the town that is being read: a light has a round -/
def ov_WS (f : Int → Int) : Prop := ∀ c : Int, 0 ≤ c → c ≤ 53 → 0 < f (350 + 4 * c) → 1 ≤ f (350 + 4 * c + 1) ∧ (f (350 + 4 * c) ≤ 2 → f 349 % f (350 + 4 * c + 1) = 0)
/-- one code: the pile's height before and behind -/
def ov_s1 (c a t t' : Int) : Prop := (c = 1 ∧ t' = t + 1) ∨ (c = 2 ∧ 0 ≤ a ∧ a ≤ 3 ∧ t' = t + 1) ∨ (c = 3 ∧ 1 ≤ t ∧ t' = t) ∨ (4 ≤ c ∧ 2 ≤ t ∧ t' = t - 1)
def ov_st (g p : Int → Int) : Nat → Int → Int → Int → Prop
  | 0, _, t, t' => t = t'
  | n + 1, i, t, t' => ∃ t1 : Int, ov_s1 (g i) (p i) t t1 ∧ ov_st g p n (i + 1) t1 t'
theorem ov_st_app {g p : Int → Int} : ∀ (n m : Nat) (i t t1 t2 : Int), ov_st g p n i t t1 → ov_st g p m (i + n) t1 t2 → ov_st g p (n + m) i t t2
  | 0, m, i, t, t1, t2, a, b => by
    have e : t = t1 := a
    rw [Nat.zero_add, e]
    simpa using b
  | n + 1, m, i, t, t1, t2, ⟨q, a1, a2⟩, b => by
    rw [show n + 1 + m = (n + m) + 1 by omega]
    refine ⟨q, a1, ov_st_app n m (i + 1) q t1 t2 a2 ?_⟩
    rw [show i + 1 + (n : Int) = i + ((n + 1 : Nat) : Int) by omega]
    exact b
theorem ov_st_con {g p g' p' : Int → Int} : ∀ (n : Nat) (i t t' : Int), (∀ j : Int, i ≤ j → j < i + n → g' j = g j ∧ p' j = p j) → ov_st g p n i t t' → ov_st g' p' n i t t'
  | 0, _, _, _, _, a => a
  | n + 1, i, t, t', hq, ⟨q, a1, a2⟩ => by
    refine ⟨q, ?_, ov_st_con n (i + 1) q t' (fun j h1 h2 => hq j (by omega) (by omega)) a2⟩
    rw [(hq i (by omega) (by omega)).1, (hq i (by omega) (by omega)).2]
    exact a1
/-- codes a to b put one number onto the pile -/
def ov_sg (g p : Int → Int) (a b : Int) : Prop := a ≤ b ∧ ∀ t : Int, 0 ≤ t → ov_st g p (b - a).toNat (1100 + a) t (t + 1)
theorem ov_sg_con {g p g' p' : Int → Int} {a b : Int} (s : ov_sg g p a b) (hq : ∀ j : Int, j < 1100 + b → g' j = g j ∧ p' j = p j) : ov_sg g' p' a b :=
  ⟨s.1, fun t ht => ov_st_con _ _ _ _ (fun j h1 h2 => hq j (by have := s.1; omega)) (s.2 t ht)⟩
/-- a number or a fact -/
theorem ov_sg_1 {g p : Int → Int} {a : Int} (hc : g (1100 + a) = 1 ∨ (g (1100 + a) = 2 ∧ 0 ≤ p (1100 + a) ∧ p (1100 + a) ≤ 3)) : ov_sg g p a (a + 1) := by
  refine ⟨by omega, fun t ht => ?_⟩
  rw [show (a + 1 - a).toNat = 0 + 1 by omega]
  refine ⟨t + 1, ?_, rfl⟩
  rcases hc with h | ⟨h1, h2, h3⟩
  · exact Or.inl ⟨h, rfl⟩
  · exact Or.inr (Or.inl ⟨h1, h2, h3, rfl⟩)
/-- not -/
theorem ov_sg_n {g p : Int → Int} {a b : Int} (s : ov_sg g p a b) (hc : g (1100 + b) = 3) : ov_sg g p a (b + 1) := by
  refine ⟨by have := s.1; omega, fun t ht => ?_⟩
  have hs := s.1
  rw [show (b + 1 - a).toNat = (b - a).toNat + 1 by omega]
  refine ov_st_app _ 1 _ _ _ _ (s.2 t ht) ⟨t + 1, ?_, rfl⟩
  rw [show 1100 + a + ((b - a).toNat : Int) = 1100 + b by omega]
  exact Or.inr (Or.inr (Or.inl ⟨hc, by omega, rfl⟩))
/-- two numbers and a code that makes one of them -/
theorem ov_sg_2 {g p : Int → Int} {a b c : Int} (s : ov_sg g p a b) (s2 : ov_sg g p b c) (hc : 4 ≤ g (1100 + c)) : ov_sg g p a (c + 1) := by
  have h1 := s.1
  have h2 := s2.1
  refine ⟨by omega, fun t ht => ?_⟩
  rw [show (c + 1 - a).toNat = (b - a).toNat + ((c - b).toNat + 1) by omega]
  refine ov_st_app _ _ _ _ _ _ (s.2 t ht) ?_
  rw [show 1100 + a + ((b - a).toNat : Int) = 1100 + b by omega]
  refine ov_st_app _ 1 _ _ _ _ (s2.2 (t + 1) (by omega)) ⟨t + 1, ?_, rfl⟩
  rw [show 1100 + b + ((c - b).toNat : Int) = 1100 + c by omega]
  exact Or.inr (Or.inr (Or.inr ⟨hc, by omega, by omega⟩))
/-- a rule's codes from place i on, with a pile so high, come to their end -/
def ov_rn (g p : Int → Int) (i t : Int) : Prop := ∃ (n : Nat) (t' : Int), i + n < 1100 ∧ t + n ≤ 1000 ∧ 1 ≤ t' ∧ ov_st g p n i t t' ∧ g (i + n) = 0
theorem ov_rn_step {g p : Int → Int} {i t : Int} (R : ov_rn g p i t) (ht : 0 ≤ t) : i < 1100 ∧ t ≤ 1000 ∧ (¬ g i = 0 → t + 1 ≤ 1000 ∧ ∃ t1 : Int, ov_s1 (g i) (p i) t t1 ∧ ov_rn g p (i + 1) t1) := by
  obtain ⟨n, t', h1, h2, hp1, h3, h4⟩ := R
  refine ⟨by omega, by omega, fun hg => ?_⟩
  cases n with
  | zero => exact absurd (by simpa using h4) hg
  | succ n =>
    obtain ⟨t1, a1, a2⟩ := h3
    have ht1 : t1 ≤ t + 1 := by
      rcases a1 with q | q | q | q <;> omega
    refine ⟨by omega, t1, a1, n, t', by omega, by omega, hp1, a2, ?_⟩
    rw [show i + 1 + (n : Int) = i + ((n + 1 : Nat) : Int) by omega]
    exact h4
/-- the rules of the town in use -/
def ov_CD (f g p : Int → Int) : Prop := ∀ r : Int, 0 ≤ r → r < f 8 → ov_rn g p (f (280 + r)) 0
/-- the rules of the town that is being read: each ends before the codes do -/
def ov_CS (f g p : Int → Int) (cd : Int) : Prop := ∀ r : Int, 0 ≤ r → r < f 348 → 0 ≤ f (620 + r) ∧ ∃ b : Int, ov_sg g p (f (620 + r)) b ∧ b < cd ∧ g (1100 + b) = 0
theorem ov_sg_bin {g1 p1 g2 p2 g3 p3 : Int → Int} {a b c op v : Int} (s1 : ov_sg g1 p1 a b) (k2 : ∀ j : Int, j < 1100 + b → g2 j = g1 j ∧ p2 j = p1 j) (s2 : ov_sg g2 p2 b c) (e3 : g3 = ov_rs g2 (1100 + c) op) (e4 : p3 = ov_rs p2 (1100 + c) v) (hop : 4 ≤ op) : ov_sg g3 p3 a (c + 1) := by
  have h2 := s2.1
  subst e3
  subst e4
  refine ov_sg_2 (ov_sg_con s1 fun j hj => ?_) (ov_sg_con s2 fun j hj => ?_) ?_
  · rw [ov_rs_ne (by omega), ov_rs_ne (by omega)]
    exact k2 j hj
  · rw [ov_rs_ne (by omega), ov_rs_ne (by omega)]
    exact ⟨rfl, rfl⟩
  · rw [ov_rs_eq]
    exact hop
theorem ov_sg_un {g2 p2 g3 p3 : Int → Int} {a c v : Int} (s2 : ov_sg g2 p2 a c) (e3 : g3 = ov_rs g2 (1100 + c) 3) (e4 : p3 = ov_rs p2 (1100 + c) v) : ov_sg g3 p3 a (c + 1) := by
  subst e3
  subst e4
  refine ov_sg_n (ov_sg_con s2 fun j hj => ?_) ?_
  · rw [ov_rs_ne (by omega), ov_rs_ne (by omega)]
    exact ⟨rfl, rfl⟩
  · rw [ov_rs_eq]
theorem ov_sg_one {g2 p2 g3 p3 : Int → Int} {a op v : Int} (e3 : g3 = ov_rs g2 (1100 + a) op) (e4 : p3 = ov_rs p2 (1100 + a) v) (hop : op = 1 ∨ (op = 2 ∧ 0 ≤ v ∧ v ≤ 3)) : ov_sg g3 p3 a (a + 1) := by
  subst e3
  subst e4
  refine ov_sg_1 ?_
  rw [ov_rs_eq, ov_rs_eq]
  exact hop
theorem ov_kp {g0 p0 g1 p1 g2 p2 : Int → Int} {a b : Int} (k1 : ∀ j : Int, j < 1100 + a → g1 j = g0 j ∧ p1 j = p0 j) (k2 : ∀ j : Int, j < 1100 + b → g2 j = g1 j ∧ p2 j = p1 j) (hab : a ≤ b) : ∀ j : Int, j < 1100 + a → g2 j = g0 j ∧ p2 j = p0 j := fun j hj => by
  rw [(k2 j (by omega)).1, (k2 j (by omega)).2]
  exact k1 j hj
theorem ov_kpe {g0 p0 g1 p1 g2 p2 : Int → Int} {a c op v : Int} (k1 : ∀ j : Int, j < 1100 + a → g1 j = g0 j ∧ p1 j = p0 j) (e3 : g2 = ov_rs g1 (1100 + c) op) (e4 : p2 = ov_rs p1 (1100 + c) v) (hab : a ≤ c) : ∀ j : Int, j < 1100 + a → g2 j = g0 j ∧ p2 j = p0 j := fun j hj => by
  rw [e3, e4, ov_rs_ne (by omega), ov_rs_ne (by omega)]
  exact k1 j hj
/-- what reading a line leaves in order: the town in use, the lights and the rules of the town being read -/
def ov_RD (f g p : Int → Int) (c : Int) (f' g' p' : Int → Int) (c' : Int) : Prop := ov_MK f g p f' g' p' ∧ (ov_WS f → ov_WS f') ∧ (ov_CS f g p c → ov_CS f' g' p' c')
theorem ov_RD_refl (f g p : Int → Int) (c : Int) : ov_RD f g p c f g p c := ⟨ov_MK_refl f g p, id, id⟩
theorem ov_RD_w {f g p f' g' p' : Int → Int} {c c' k v : Int} (R : ov_RD f g p c f' g' p' c') (h4 : f' 348 ≤ 4) (hk : 340 ≤ k ∧ (k < 349 ∨ 566 ≤ k) ∧ k ≠ 348 ∧ (k < 620 ∨ 624 ≤ k)) : ov_RD f g p c (ov_rs f' k v) g' p' c' := by
  refine ⟨ov_MK_1 R.1 (by omega), fun w => ?_, fun w => ?_⟩
  · intro d h0 h1
    rw [ov_rs_ne (j := 350 + 4 * d) (by omega), ov_rs_ne (j := 350 + 4 * d + 1) (by omega), ov_rs_ne (j := 349) (by omega)]
    exact R.2.1 w d h0 h1
  · intro r h0 h1
    rw [ov_rs_ne (by omega)] at h1
    rw [ov_rs_ne (by omega)]
    exact R.2.2 w r h0 h1
/-- the common round becomes a number that the one before divides -/
theorem ov_RD_c {f g p f' g' p' : Int → Int} {c c' k v : Int} (R : ov_RD f g p c f' g' p' c') (h4 : f' 348 ≤ 4) (hk : k = 349) (hv : v % f' 349 = 0) : ov_RD f g p c (ov_rs f' k v) g' p' c' := by
  refine ⟨ov_MK_1 R.1 (by omega), fun w => ?_, fun w => ?_⟩
  · intro d h0 h1
    rw [ov_rs_ne (j := 350 + 4 * d) (by omega), ov_rs_ne (j := 350 + 4 * d + 1) (by omega), hk, ov_rs_eq]
    intro h2
    refine ⟨(R.2.1 w d h0 h1 h2).1, fun h3 => ?_⟩
    exact Int.emod_eq_zero_of_dvd (Int.dvd_trans (Int.dvd_of_emod_eq_zero ((R.2.1 w d h0 h1 h2).2 h3)) (Int.dvd_of_emod_eq_zero hv))
  · intro r h0 h1
    rw [ov_rs_ne (by omega)] at h1
    rw [ov_rs_ne (by omega)]
    exact R.2.2 w r h0 h1
theorem ov_RD_l {f g p f' g' p' : Int → Int} {c c' e i k v : Int} (R : ov_RD f g p c f' g' p' c') (h4 : f' 348 ≤ 4) (he : 0 ≤ e ∧ e ≤ 53) (hi : i = 2 ∨ i = 3) (hk : k = 350 + 4 * e + i) : ov_RD f g p c (ov_rs f' k v) g' p' c' := by
  refine ⟨ov_MK_1 R.1 (by omega), fun w => ?_, fun w => ?_⟩
  · intro d h0 h1
    rw [ov_rs_ne (j := 350 + 4 * d) (by omega), ov_rs_ne (j := 350 + 4 * d + 1) (by omega), ov_rs_ne (j := 349) (by omega)]
    exact R.2.1 w d h0 h1
  · intro r h0 h1
    rw [ov_rs_ne (by omega)] at h1
    rw [ov_rs_ne (by omega)]
    exact R.2.2 w r h0 h1
theorem ov_RD_k {f g p f' g' p' : Int → Int} {c c' e k k1 v rd : Int} (R : ov_RD f g p c f' g' p' c') (h4 : f' 348 ≤ 4) (he : 0 ≤ e ∧ e ≤ 53) (hk : k = 350 + 4 * e) (hk1 : k1 = k + 1) (hr : 1 ≤ rd) (hq : v ≤ 2 → f' 349 % rd = 0) : ov_RD f g p c (ov_rs (ov_rs f' k v) k1 rd) g' p' c' := by
  refine ⟨ov_MK_1 (ov_MK_1 R.1 (by omega)) (by omega), fun w => ?_, fun w => ?_⟩
  · intro d h0 h1 h2
    by_cases hd : d = e
    · have e2 : 350 + 4 * d + 1 = k1 := by omega
      have e3 : 350 + 4 * d = k := by omega
      have e4 : ov_rs (ov_rs f' k v) k1 rd 349 = f' 349 := by rw [ov_rs_ne (by omega), ov_rs_ne (by omega)]
      have e5 : ov_rs (ov_rs f' k v) k1 rd k = v := by rw [ov_rs_ne (by omega), ov_rs_eq]
      rw [e2, ov_rs_eq, e3, e4, e5]
      exact ⟨hr, hq⟩
    · have e4 : ov_rs (ov_rs f' k v) k1 rd 349 = f' 349 := by rw [ov_rs_ne (by omega), ov_rs_ne (by omega)]
      have e5 : ov_rs (ov_rs f' k v) k1 rd (350 + 4 * d) = f' (350 + 4 * d) := by rw [ov_rs_ne (by omega), ov_rs_ne (by omega)]
      have e6 : ov_rs (ov_rs f' k v) k1 rd (350 + 4 * d + 1) = f' (350 + 4 * d + 1) := by rw [ov_rs_ne (by omega), ov_rs_ne (by omega)]
      rw [e5] at h2
      rw [e4, e5, e6]
      exact R.2.1 w d h0 h1 h2
  · intro r h0 h1
    rw [ov_rs_ne (by omega), ov_rs_ne (by omega)] at h1
    rw [ov_rs_ne (by omega), ov_rs_ne (by omega)]
    exact R.2.2 w r h0 h1
/-- a rule read whole -/
theorem ov_CS_r {f g p f' g' p' g2 p2 : Int → Int} {c b : Int} (C : ov_CS f g p c) (hc : 0 ≤ c) (h4 : 0 ≤ f 348 ∧ f 348 ≤ 3) (hs : f' (620 + f 348) = c) (ho : ∀ r : Int, 0 ≤ r → r < f 348 → f' (620 + r) = f (620 + r)) (hn : f' 348 = f 348 + 1)
    (k1 : ∀ j : Int, j < 1100 + c → g' j = g j ∧ p' j = p j) (s : ov_sg g' p' c b) (e3 : g2 = ov_rs g' (1100 + b) 0) (e4 : p2 = ov_rs p' (1100 + b) 0) : ov_CS f' g2 p2 (b + 1) := by
  have hb := s.1
  have k2 : ∀ j : Int, j < 1100 + b → g2 j = g' j ∧ p2 j = p' j := fun j hj => by
    rw [e3, e4, ov_rs_ne (by omega), ov_rs_ne (by omega)]
    exact ⟨rfl, rfl⟩
  intro r h0 h1
  rw [hn] at h1
  by_cases hr : r = f 348
  · rw [hr, hs]
    exact ⟨hc, b, ov_sg_con s k2, by omega, by rw [e3, ov_rs_eq]⟩
  · rw [ho r h0 (by omega)]
    obtain ⟨q0, b', q1, q2, q3⟩ := C r h0 (by omega)
    refine ⟨q0, b', ov_sg_con q1 fun j hj => ?_, by omega, ?_⟩
    · rw [(k2 j (by omega)).1, (k2 j (by omega)).2]
      exact k1 j (by omega)
    · rw [(k2 _ (by omega)).1, (k1 _ (by omega)).1]
      exact q3
/-- the town that was read comes into use -/
theorem ov_WT_of {f f' : Int → Int} (W : ov_WS f) (hc : ∀ j : Int, 0 ≤ j → j < 340 → f' j = f (340 + j)) : ov_WT f' := by
  intro c h0 h1 h2
  have e0 : f' (10 + 4 * c) = f (350 + 4 * c) := by
    rw [hc _ (by omega) (by omega)]
    congr 1
    omega
  have e1 : f' (10 + 4 * c + 1) = f (350 + 4 * c + 1) := by
    rw [hc _ (by omega) (by omega)]
    congr 1
    omega
  have e2 : f' 9 = f 349 := by
    rw [hc _ (by omega) (by omega)]
    rfl
  rw [e0] at h2
  rw [e0, e1, e2]
  exact W c h0 h1 h2
theorem ov_st_sh {g p g' p' : Int → Int} : ∀ (n : Nat) (i t t' : Int), (∀ j : Int, i ≤ j → j < i + n → g' j = g (1100 + j) ∧ p' j = p (1100 + j)) → ov_st g p n (1100 + i) t t' → ov_st g' p' n i t t'
  | 0, _, _, _, _, a => a
  | n + 1, i, t, t', hq, ⟨q, a1, a2⟩ => by
    rw [show 1100 + i + 1 = 1100 + (i + 1) by omega] at a2
    refine ⟨q, ?_, ov_st_sh n (i + 1) q t' (fun j h1 h2 => hq j (by omega) (by omega)) a2⟩
    rw [(hq i (by omega) (by omega)).1, (hq i (by omega) (by omega)).2]
    exact a1
theorem ov_CD_of {f g p f' g' p' : Int → Int} {c : Int} (C : ov_CS f g p c) (hcd : c ≤ 1000) (h4 : f 348 ≤ 4) (hf : ∀ j : Int, 0 ≤ j → j < 340 → f' j = f (340 + j)) (hg : ∀ j : Int, 0 ≤ j → j < c → g' j = g (1100 + j) ∧ p' j = p (1100 + j)) : ov_CD f' g' p' := by
  intro r h0 h1
  rw [hf 8 (by omega) (by omega)] at h1
  have h1' : r < f 348 := h1
  rw [hf (280 + r) (by omega) (by omega), show 340 + (280 + r) = 620 + r by omega]
  obtain ⟨q0, b, q1, q2, q3⟩ := C r h0 h1'
  have hb := q1.1
  refine ⟨(b - f (620 + r)).toNat, 1, by omega, by omega, by omega, ov_st_sh _ _ _ _ (fun j a1 a2 => hg j (by omega) (by omega)) (q1.2 0 (by omega)), ?_⟩
  rw [show f (620 + r) + ((b - f (620 + r)).toNat : Int) = b by omega, (hg b (by omega) q2).1]
  exact q3
theorem ov_tdp {a b : Int} (ha : 0 ≤ a) (hb : 0 < b) : 0 ≤ Int.tdiv a b ∧ Int.tdiv a b ≤ a ∧ (b ≤ a → 1 ≤ Int.tdiv a b) := by
  rw [Int.tdiv_eq_ediv_of_nonneg ha]
  exact ⟨Int.ediv_nonneg ha (by omega), Int.ediv_le_self _ ha, fun q => (Int.le_ediv_iff_mul_le hb).mpr (by omega)⟩
theorem ov_WS_o {f : Int → Int} {k v : Int} (w : ov_WS f) (hk : k < 349 ∨ 566 ≤ k) : ov_WS (ov_rs f k v) := by
  intro d h0 h1
  rw [ov_rs_ne (j := 350 + 4 * d) (by omega), ov_rs_ne (j := 350 + 4 * d + 1) (by omega), ov_rs_ne (j := 349) (by omega)]
  exact w d h0 h1
theorem ov_sx_con {f f' : Int → Int} : ∀ n : Nat, (∀ k : Int, 0 ≤ k → k < n → f' (1 + 2 * k) = f (1 + 2 * k)) → ov_sx f' n = ov_sx f n
  | 0, _ => rfl
  | n + 1, hq => by
    show ov_sx f' n + (1 - f' (1 + 2 * (n : Int))) = ov_sx f n + (1 - f (1 + 2 * (n : Int)))
    rw [ov_sx_con n (fun k a b => hq k a (by omega)), hq n (by omega) (by omega)]
theorem ov_WK_o {f f' : Int → Int} (w : ov_WK f) (h0 : 0 ≤ f 0 ∧ f 0 ≤ 13) (hq : ∀ j : Int, j < 30 → f' j = f j) : ov_WK f' := by
  unfold ov_WK
  rw [hq 0 (by decide), ov_sx_con (f := f) (f' := f') _ (fun k a b => hq _ (by omega))]
  exact w
/-- the walk told last, before it comes into use -/
abbrev ov_tw (f : Int → Int) : Int → Int := fun j => f (29 + j)
theorem ov_tw_s (f : Int → Int) {n : Int} (hn : 0 ≤ n) : ov_sx (ov_tw f) (n + 1).toNat = ov_sx (ov_tw f) n.toNat + (1 - f (30 + 2 * n)) := by
  rw [ov_sx_s _ hn]
  show _ + (1 - f (29 + (1 + 2 * n))) = _
  rw [show 29 + (1 + 2 * n) = 30 + 2 * n by omega]
theorem ov_tw_o {f : Int → Int} {n k v : Int} (hn : 0 ≤ n) (hk : 30 + 2 * n ≤ k) : ov_sx (ov_tw (ov_rs f k v)) n.toNat = ov_sx (ov_tw f) n.toNat := by
  refine ov_sx_con _ fun j a b => ?_
  show ov_rs f k v (29 + (1 + 2 * j)) = f (29 + (1 + 2 * j))
  rw [ov_rs_ne (by omega)]
theorem ov_WK_of {f f' : Int → Int} {n : Int} (hn : 0 ≤ n) (h0 : f' 0 = n) (hx : ov_sx (ov_tw f) n.toNat ≤ 5 ∧ n - ov_sx (ov_tw f) n.toNat ≤ 8) (hc : ∀ j : Int, 0 ≤ j → j < 2 * n → f' (1 + j) = f (30 + j)) : ov_WK f' := by
  have e : ov_sx f' n.toNat = ov_sx (ov_tw f) n.toNat := ov_sx_con _ fun j a b => by
    show f' (1 + 2 * j) = f (29 + (1 + 2 * j))
    rw [hc (2 * j) (by omega) (by omega), show 30 + 2 * j = 29 + (1 + 2 * j) by omega]
  unfold ov_WK
  rw [h0, e]
  exact hx
theorem ov_cp96 {F : ov_H × ov_Z} {z : ov_Z} {h : ov_H} (I : ov_N F z h) {k : Int} (hk : 0 ≤ k ∧ k < 340) (hw : (k = 0 → 1 ≤ h 96 (340 + k)) ∧ (k = 1 → 1 ≤ h 96 (340 + k)) ∧ (k = 2 → 1 ≤ h 96 (340 + k)) ∧ (k = 9 → 1 ≤ h 96 (340 + k))) : ov_N F z (ov_up h 96 k (h 96 (340 + k))) := by
  refine ov_N_up I (by decide) ?_
  refine ⟨(ra_96 I (340 + k)).1,
    fun e => by have q := (ra_96 I (340 + k)).2.2.2.2.2.2.2.2.2.2.1 (by omega); omega,
    fun e => by have q := (ra_96 I (340 + k)).2.2.2.2.2.2.2.2.2.2.2.1 (by omega); omega,
    fun e => by have q := (ra_96 I (340 + k)).2.2.2.2.2.2.2.2.2.2.2.2.1 (by omega); omega,
    fun e => by have q := (ra_96 I (340 + k)).2.2.2.2.2.2.2.2.2.2.2.2.2.1 (by omega); omega,
    fun e => by have q := (ra_96 I (340 + k)).2.2.2.2.2.2.2.2.2.2.2.2.2.2.1 (by omega); omega,
    fun e => by have q := (ra_96 I (340 + k)).2.2.2.2.2.2.2.2.2.2.2.2.2.2.2.1 (by omega); omega,
    fun e => by have q := (ra_96 I (340 + k)).2.2.2.2.2.2.2.2.2.2.2.2.2.2.2.2.1 (by omega); omega,
    fun e => by have q := (ra_96 I (340 + k)).2.2.2.2.2.2.2.2.2.2.2.2.2.2.2.2.2.1 (by omega); omega,
    fun e => by have q := (ra_96 I (340 + k)).2.2.2.2.2.2.2.2.2.2.2.2.2.2.2.2.2.2.1 (by omega); omega,
    fun e => by omega,
    fun e => by omega,
    fun e => by omega,
    fun e => by omega,
    fun e => by omega,
    fun e => by omega,
    fun e => by omega,
    fun e => by omega,
    fun e => by omega,
    fun a b c => (ra_96 I (340 + k)).2.2.2.2.2.2.2.2.2.2.2.2.2.2.2.2.2.2.2.2.2.2.2.1 (by omega) (by omega) (by omega),
    fun a b c => (ra_96 I (340 + k)).2.2.2.2.2.2.2.2.2.2.2.2.2.2.2.2.2.2.2.2.2.2.2.2.1 (by omega) (by omega) (by omega),
    fun a b c => (ra_96 I (340 + k)).2.2.2.2.2.2.2.2.2.2.2.2.2.2.2.2.2.2.2.2.2.2.2.2.2.1 (by omega) (by omega) (by omega),
    fun a b c => (ra_96 I (340 + k)).2.2.2.2.2.2.2.2.2.2.2.2.2.2.2.2.2.2.2.2.2.2.2.2.2.2.1 (by omega) (by omega) (by omega),
    fun a b c => by omega,
    fun a b c => by omega,
    fun a b c => by omega,
    fun a b c => by omega,
    fun a b => (ra_96 I (340 + k)).2.2.2.2.2.2.2.2.2.2.2.2.2.2.2.2.2.2.2.2.2.2.2.2.2.2.2.2 (by omega) (by omega),
    fun a b => by omega⟩

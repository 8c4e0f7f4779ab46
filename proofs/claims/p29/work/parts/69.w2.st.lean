/-! rows written -/
theorem st_up {h : ov_H} {a k x k' x' : Int} {f : Int → Int} (e : h a = f) (ek : k = k') (ex : x = x') : ov_up h a k x a = ov_rs f k' x' := by
  rw [ov_up_row, e, ek, ex]
theorem st_un {h : ov_H} {a b k x : Int} {f : Int → Int} (hb : b ≠ a) (e : h b = f) : ov_up h a k x b = f := (ov_up_ne hb).trans e
/-! the state of both: where one is, when, what is known, tried, seen; the steps kept; the marks -/
def st_P (R : Int) (f : Int → Int) (o c s rn kn : Int) : Prop := c = 6 * f (o + 1) + f o ∧ s = f (o + 2) ∧ rn = f (o + 3) ∧ 0 ≤ rn ∧ rn ≤ R ∧ ∀ q : Int, 0 ≤ q → q < 54 → ov_kb kn q = f (o + 4 + q)
def st_T (f : Int → Int) (o n m : Int) (r5 r6 r7 r8 : Int → Int) : Prop := n = f (o + 58) ∧ m = f (o + 59) ∧ (∀ i : Int, 0 ≤ i → i < n → r5 i = f (o + 60 + 3 * i) ∧ (f (o + 61 + 3 * i) = 1 → r6 i = f (o + 62 + 3 * i)) ∧ (¬ f (o + 61 + 3 * i) = 1 → r6 i = -1) ∧ 0 ≤ f (o + 62 + 3 * i) ∧ f (o + 62 + 3 * i) ≤ 59) ∧ ∀ i : Int, 0 ≤ i → i < m → r7 i = 6 * f (o + 93 + 3 * i) + f (o + 92 + 3 * i) ∧ r8 i = f (o + 94 + 3 * i) ∧ 0 ≤ f (o + 92 + 3 * i) ∧ f (o + 92 + 3 * i) ≤ 5 ∧ f (o + 94 + 3 * i) ≤ 9999
def st_M (R : Int) (f : Int → Int) (o : Int) (r4 r5 r6 r7 r8 : Int → Int) : Prop := st_P R f o (r4 0) (r4 1) (r4 2) (r4 3) ∧ st_T f o (r4 4) (r4 5) r5 r6 r7 r8
def st_e (tp u k : Int) : Int := (tp - u + k) % 16
def st_H (R : Int) (f : Int → Int) (u : Int) (r9 r10 r11 r12 r13 : Int → Int) : Prop := r9 0 = u ∧ 0 ≤ u ∧ u ≤ 16 ∧ 0 ≤ r9 1 ∧ r9 1 < 16 ∧ ∀ k : Int, 0 ≤ k → k < u → st_P R f (600 + 120 * k) (r10 (st_e (r9 1) u k)) (r11 (st_e (r9 1) u k)) (r12 (st_e (r9 1) u k)) (r13 (st_e (r9 1) u k))
def st_L (R : Int) (f g : Int → Int) (h : ov_H) : Prop := ∀ m : Int, 0 ≤ m → m < 4 → h 35 m = g m ∧ (g m = 1 → st_M R f (120 + 120 * m) (h (15 + 5 * m)) (h (16 + 5 * m)) (h (17 + 5 * m)) (h (18 + 5 * m)) (h (19 + 5 * m)))
def st_R (h : ov_H) : Prop := st_M (h 96 5) (h 103) 0 (h 4) (h 5) (h 6) (h 7) (h 8) ∧ st_H (h 96 5) (h 103) (h 90 20) (h 9) (h 10) (h 11) (h 12) (h 13) ∧ st_L (h 96 5) (h 103) (h 104) h
theorem st_P_cg {R : Int} {f f2 : Int → Int} {o o2 c s rn kn : Int} (P : st_P R f o c s rn kn) (e : ∀ i : Int, 0 ≤ i → i < 58 → f2 (o2 + i) = f (o + i)) : st_P R f2 o2 c s rn kn := by
  obtain ⟨a, b, c_, d, d2, k⟩ := P
  have e0 := e 0 (by decide) (by decide)
  have e1 := e 1 (by decide) (by decide)
  have e2 := e 2 (by decide) (by decide)
  have e3 := e 3 (by decide) (by decide)
  rw [Int.add_zero, Int.add_zero] at e0
  refine ⟨by rw [e1, e0]; exact a, by rw [e2]; exact b, by rw [e3]; exact c_, d, d2, fun q h0 h1 => ?_⟩
  have e4 := e (4 + q) (by omega) (by omega)
  rw [show o2 + 4 + q = o2 + (4 + q) by omega, e4, show o + (4 + q) = o + 4 + q by omega]
  exact k q h0 h1
theorem st_T_cg {f f2 : Int → Int} {o o2 n m : Int} {r5 r6 r7 r8 : Int → Int} (T : st_T f o n m r5 r6 r7 r8) (hn : n ≤ 10) (hm : m ≤ 8) (e : ∀ i : Int, 58 ≤ i → i < 120 → f2 (o2 + i) = f (o + i)) : st_T f2 o2 n m r5 r6 r7 r8 := by
  obtain ⟨a, b, c, d⟩ := T
  refine ⟨by rw [e 58 (by decide) (by decide)]; exact a, by rw [e 59 (by decide) (by decide)]; exact b, fun i h0 h1 => ?_, fun i h0 h1 => ?_⟩
  · have x0 := e (60 + 3 * i) (by omega) (by omega)
    have x1 := e (61 + 3 * i) (by omega) (by omega)
    have x2 := e (62 + 3 * i) (by omega) (by omega)
    rw [show o2 + 60 + 3 * i = o2 + (60 + 3 * i) by omega, show o2 + 61 + 3 * i = o2 + (61 + 3 * i) by omega, show o2 + 62 + 3 * i = o2 + (62 + 3 * i) by omega, x0, x1, x2, show o + (60 + 3 * i) = o + 60 + 3 * i by omega, show o + (61 + 3 * i) = o + 61 + 3 * i by omega, show o + (62 + 3 * i) = o + 62 + 3 * i by omega]
    exact c i h0 h1
  · have x0 := e (92 + 3 * i) (by omega) (by omega)
    have x1 := e (93 + 3 * i) (by omega) (by omega)
    have x2 := e (94 + 3 * i) (by omega) (by omega)
    rw [show o2 + 92 + 3 * i = o2 + (92 + 3 * i) by omega, show o2 + 93 + 3 * i = o2 + (93 + 3 * i) by omega, show o2 + 94 + 3 * i = o2 + (94 + 3 * i) by omega, x0, x1, x2, show o + (92 + 3 * i) = o + 92 + 3 * i by omega, show o + (93 + 3 * i) = o + 93 + 3 * i by omega, show o + (94 + 3 * i) = o + 94 + 3 * i by omega]
    exact d i h0 h1
theorem st_T_rw {f : Int → Int} {o n m : Int} {r5 r6 r7 r8 q5 q6 q7 q8 : Int → Int} (T : st_T f o n m r5 r6 r7 r8) (hn : n ≤ 10) (hm : m ≤ 8) (e5 : ∀ i : Int, 0 ≤ i → i < 10 → q5 i = r5 i) (e6 : ∀ i : Int, 0 ≤ i → i < 10 → q6 i = r6 i) (e7 : ∀ i : Int, 0 ≤ i → i < 8 → q7 i = r7 i) (e8 : ∀ i : Int, 0 ≤ i → i < 8 → q8 i = r8 i) : st_T f o n m q5 q6 q7 q8 := by
  obtain ⟨a, b, c, d⟩ := T
  refine ⟨a, b, fun i h0 h1 => ?_, fun i h0 h1 => ?_⟩
  · rw [e5 i h0 (by omega), e6 i h0 (by omega)]
    exact c i h0 h1
  · rw [e7 i h0 (by omega), e8 i h0 (by omega)]
    exact d i h0 h1
/-- copies of the reference, keeps of the reference -/
def cp_f (f : Int → Int) (fr tt m j : Int) : Int := if 120 * tt ≤ j ∧ j < 120 * tt + m then f (120 * fr + (j - 120 * tt)) else f j
def kp_f (f : Int → Int) (u j : Int) : Int := if u = 16 then (if 600 ≤ j ∧ j < 2400 ∧ j % 120 < 58 then f (j + 120) else if 2400 ≤ j ∧ j < 2458 then f (j - 2400) else f j) else cp_f f 0 (5 + u) 58 j
def kp_u (u : Int) : Int := if u = 16 then 16 else u + 1
theorem cp_f_o {f : Int → Int} {fr tt m j : Int} (q : ¬ (120 * tt ≤ j ∧ j < 120 * tt + m)) : cp_f f fr tt m j = f j := if_neg q
theorem cp_f_i {f : Int → Int} {fr tt m o i : Int} (ho : o = 120 * tt) (h0 : 0 ≤ i) (h1 : i < m) : cp_f f fr tt m (o + i) = f (120 * fr + i) := by
  unfold cp_f
  rw [if_pos (by omega), show 120 * fr + (o + i - 120 * tt) = 120 * fr + i by omega]
theorem kp_f_lo {f : Int → Int} {u j : Int} (hu : 0 ≤ u) (hj : j < 600) : kp_f f u j = f j := by
  unfold kp_f
  split
  · rw [if_neg (by omega), if_neg (by omega)]
  · exact cp_f_o (by omega)
/-- what the class keeps of a step -/
def st_K (h h2 : ov_H) : Prop := (h2 9 1 = (h 9 1 + 1) % 16 ∧ h2 9 0 = if h 9 0 = 16 then 16 else h 9 0 + 1) ∧ h2 10 = ov_rs (h 10) (h 9 1) (h 4 0) ∧ h2 11 = ov_rs (h 11) (h 9 1) (h 4 1) ∧ h2 12 = ov_rs (h 12) (h 9 1) (h 4 2) ∧ h2 13 = ov_rs (h 13) (h 9 1) (h 4 3)
theorem st_H_keep {R u : Int} {f : Int → Int} {h h2 : ov_H} (H : st_H R f u (h 9) (h 10) (h 11) (h 12) (h 13)) (P : st_P R f 0 (h 4 0) (h 4 1) (h 4 2) (h 4 3)) (K : st_K h h2) : st_H R (kp_f f u) (kp_u u) (h2 9) (h2 10) (h2 11) (h2 12) (h2 13) := by
  obtain ⟨a, b, c, d, e, k⟩ := H
  obtain ⟨⟨k0, k1⟩, k2, k3, k4, k5⟩ := K
  have v : h2 9 0 = kp_u u := by
    rw [k1, a]
    rfl
  have vb : 0 ≤ kp_u u ∧ kp_u u ≤ 16 := by
    unfold kp_u
    split <;> omega
  refine ⟨v, vb.1, vb.2, by omega, by omega, fun j j0 j1 => ?_⟩
  rw [k2, k3, k4, k5]
  by_cases w : u = 16
  · have eu : kp_u u = 16 := if_pos w
    rw [eu] at j1 ⊢
    by_cases l : j = 15
    · have es : st_e (h2 9 1) 16 j = h 9 1 := by
        unfold st_e
        omega
      rw [es, ov_rs_eq, ov_rs_eq, ov_rs_eq, ov_rs_eq]
      refine st_P_cg P (fun i h0 h1 => ?_)
      unfold kp_f
      rw [if_pos w, if_neg (by omega), if_pos (by omega), show 600 + 120 * j + i - 2400 = 0 + i by omega]
    · have es : st_e (h2 9 1) 16 j = st_e (h 9 1) u (j + 1) := by
        unfold st_e
        omega
      have ne : ¬ st_e (h 9 1) u (j + 1) = h 9 1 := by
        unfold st_e
        omega
      rw [es, ov_rs_ne ne, ov_rs_ne ne, ov_rs_ne ne, ov_rs_ne ne]
      refine st_P_cg (k (j + 1) (by omega) (by omega)) (fun i h0 h1 => ?_)
      unfold kp_f
      rw [if_pos w, if_pos (by omega), show 600 + 120 * j + i + 120 = 600 + 120 * (j + 1) + i by omega]
  · have eu : kp_u u = u + 1 := if_neg w
    rw [eu] at j1 ⊢
    have kf : ∀ x : Int, kp_f f u x = cp_f f 0 (5 + u) 58 x := fun x => if_neg w
    by_cases l : j = u
    · have es : st_e (h2 9 1) (u + 1) j = h 9 1 := by
        unfold st_e
        omega
      rw [es, ov_rs_eq, ov_rs_eq, ov_rs_eq, ov_rs_eq]
      refine st_P_cg P (fun i h0 h1 => ?_)
      rw [kf, cp_f_i (by omega) h0 h1]
      rfl
    · have es : st_e (h2 9 1) (u + 1) j = st_e (h 9 1) u j := by
        unfold st_e
        omega
      have ne : ¬ st_e (h 9 1) u j = h 9 1 := by
        unfold st_e
        omega
      rw [es, ov_rs_ne ne, ov_rs_ne ne, ov_rs_ne ne, ov_rs_ne ne]
      refine st_P_cg (k j j0 (by omega)) (fun i h0 h1 => ?_)
      rw [kf, cp_f_o (by omega)]
theorem st_L_cg {R : Int} {f f2 g : Int → Int} {h h2 : ov_H} (hb : ∀ a : Int, 15 ≤ a → a < 36 → h2 a = h a) (ht : ∀ m : Int, 0 ≤ m → m < 4 → h (15 + 5 * m) 4 ≤ 10 ∧ h (15 + 5 * m) 5 ≤ 8) (L : st_L R f g h) (e : ∀ j : Int, 120 ≤ j → j < 600 → f2 j = f j) : st_L R f2 g h2 := fun m m0 m1 => by
  obtain ⟨a, b⟩ := L m m0 m1
  rw [hb 35 (by decide) (by decide), hb (15 + 5 * m) (by omega) (by omega), hb (16 + 5 * m) (by omega) (by omega), hb (17 + 5 * m) (by omega) (by omega), hb (18 + 5 * m) (by omega) (by omega), hb (19 + 5 * m) (by omega) (by omega)]
  refine ⟨a, fun q => ?_⟩
  obtain ⟨p, t⟩ := b q
  have tt := ht m m0 m1
  exact ⟨st_P_cg p (fun i h0 h1 => e _ (by omega) (by omega)), st_T_cg t tt.1 tt.2 (fun i h0 h1 => e _ (by omega) (by omega))⟩
/-- what ranges the class's rows keep -/
def st_G (h : ov_H) : Prop := (0 ≤ h 4 4 ∧ h 4 4 ≤ 10) ∧ (0 ≤ h 4 5 ∧ h 4 5 ≤ 8) ∧ ∀ m : Int, 0 ≤ m → m < 4 → h (15 + 5 * m) 4 ≤ 10 ∧ h (15 + 5 * m) 5 ≤ 8
/-- a step by hand -/
theorem st_step {h h2 : ov_H} (S : st_R h) (G : st_G h) (K : st_K h h2) (n4 : h2 4 4 = h 4 4) (n5 : h2 4 5 = h 4 5) (r58 : ∀ a : Int, 5 ≤ a → a < 9 ∨ 15 ≤ a → a < 36 → h2 a = h a) (r104 : h2 104 = h 104) (r96 : h2 96 5 = h 96 5) (u2 : h2 90 20 = kp_u (h 90 20)) (e : ∀ j : Int, 58 ≤ j → h2 103 j = kp_f (h 103) (h 90 20) j) (P : st_P (h 96 5) (h2 103) 0 (h2 4 0) (h2 4 1) (h2 4 2) (h2 4 3)) : st_R h2 := by
  obtain ⟨⟨sp, stt⟩, H, L⟩ := S
  have u0 := H.2.1
  have hk := st_H_keep H sp K
  unfold st_R
  rw [r96, u2, r104]
  refine ⟨⟨P, ?_⟩, ?_, ?_⟩
  · rw [n4, n5, r58 5 (by decide) (by decide) (by decide), r58 6 (by decide) (by decide) (by decide), r58 7 (by decide) (by decide) (by decide), r58 8 (by decide) (by decide) (by decide)]
    exact st_T_cg stt G.1.2 G.2.1.2 (fun i h0 h1 => by rw [e _ (by omega), kp_f_lo u0 (by omega)])
  · obtain ⟨a, b, c, d, d2, k⟩ := hk
    exact ⟨a, b, c, d, d2, fun j j0 j1 => st_P_cg (k j j0 j1) (fun i h0 h1 => e _ (by omega))⟩
  · exact st_L_cg (fun a a0 a1 => r58 a (by omega) (by omega) a1) G.2.2 L (fun j j0 j1 => by rw [e _ (by omega), kp_f_lo u0 (by omega)])
/-- nothing of it changes -/
theorem st_same {h h2 : ov_H} (S : st_R h) (r : ∀ a : Int, 4 ≤ a → a < 14 ∨ 15 ≤ a → a < 36 → h2 a = h a) (r103 : h2 103 = h 103) (r104 : ∀ m : Int, 0 ≤ m → m < 4 → h2 104 m = h 104 m) (r96 : h2 96 5 = h 96 5) (u : h2 90 20 = h 90 20) : st_R h2 := by
  obtain ⟨m, H, L⟩ := S
  unfold st_R st_L
  rw [r103, r96, u, r 4 (by decide) (by decide) (by decide), r 5 (by decide) (by decide) (by decide), r 6 (by decide) (by decide) (by decide), r 7 (by decide) (by decide) (by decide), r 8 (by decide) (by decide) (by decide), r 9 (by decide) (by decide) (by decide), r 10 (by decide) (by decide) (by decide), r 11 (by decide) (by decide) (by decide), r 12 (by decide) (by decide) (by decide), r 13 (by decide) (by decide) (by decide)]
  refine ⟨m, H, fun k k0 k1 => ?_⟩
  rw [r104 k k0 k1, r 35 (by decide) (by decide) (by decide), r (15 + 5 * k) (by omega) (by omega) (by omega), r (16 + 5 * k) (by omega) (by omega) (by omega), r (17 + 5 * k) (by omega) (by omega) (by omega), r (18 + 5 * k) (by omega) (by omega) (by omega), r (19 + 5 * k) (by omega) (by omega) (by omega)]
  exact L k k0 k1
theorem st_undo {h h2 : ov_H} (S : st_R h) (G : st_G h) (nz : ¬ h 9 0 = 0) (t9 : h2 9 1 = (h 9 1 + 15) % 16) (s9 : h2 9 0 = h 9 0 - 1) (c0 : h2 4 0 = h 10 ((h 9 1 + 15) % 16)) (c1 : h2 4 1 = h 11 ((h 9 1 + 15) % 16)) (c2 : h2 4 2 = h 12 ((h 9 1 + 15) % 16)) (c3 : h2 4 3 = h 13 ((h 9 1 + 15) % 16)) (n4 : h2 4 4 = h 4 4) (n5 : h2 4 5 = h 4 5) (rr : ∀ a : Int, 5 ≤ a → a < 9 ∨ 10 ≤ a → a < 14 ∨ 15 ≤ a → a < 36 → h2 a = h a) (r104 : h2 104 = h 104) (r96 : h2 96 5 = h 96 5) (u2 : h2 90 20 = h 90 20 - 1) (e : h2 103 = cp_f (h 103) (5 + (h 90 20 - 1)) 0 58) : st_R h2 := by
  obtain ⟨⟨sp, stt⟩, H, L⟩ := S
  obtain ⟨a, b, c, d, d2, k⟩ := H
  have lo : ∀ j : Int, 58 ≤ j → h2 103 j = h 103 j := fun j hj => by rw [e]; exact cp_f_o (by omega)
  unfold st_R
  rw [r96, u2, r104]
  refine ⟨⟨?_, ?_⟩, ⟨by omega, by omega, by omega, by omega, by omega, fun j j0 j1 => ?_⟩, ?_⟩
  · have p := k (h 90 20 - 1) (by omega) (by omega)
    rw [show st_e (h 9 1) (h 90 20) (h 90 20 - 1) = (h 9 1 + 15) % 16 by unfold st_e; omega] at p
    rw [c0, c1, c2, c3]
    refine st_P_cg p (fun i h0 h1 => ?_)
    rw [e, cp_f_i (by decide) h0 h1]
    exact congrArg (h 103) (by omega)
  · rw [n4, n5, rr 5 (by decide) (by decide) (by decide) (by decide), rr 6 (by decide) (by decide) (by decide) (by decide), rr 7 (by decide) (by decide) (by decide) (by decide), rr 8 (by decide) (by decide) (by decide) (by decide)]
    exact st_T_cg stt G.1.2 G.2.1.2 (fun i h0 h1 => lo _ (by omega))
  · rw [rr 10 (by decide) (by decide) (by decide) (by decide), rr 11 (by decide) (by decide) (by decide) (by decide), rr 12 (by decide) (by decide) (by decide) (by decide), rr 13 (by decide) (by decide) (by decide) (by decide)]
    have p := k j j0 (by omega)
    rw [show st_e (h 9 1) (h 90 20) j = st_e (h2 9 1) (h 90 20 - 1) j by unfold st_e; omega] at p
    exact st_P_cg p (fun i h0 h1 => lo _ (by omega))
  · exact st_L_cg (fun a a0 a1 => rr a (by omega) (by omega) (by omega) a1) G.2.2 L (fun j j0 j1 => lo j (by omega))
theorem st_H_cg {R u : Int} {f f2 r9 r10 r11 r12 r13 : Int → Int} (H : st_H R f u r9 r10 r11 r12 r13) (e : ∀ j : Int, 600 ≤ j → f2 j = f j) : st_H R f2 u r9 r10 r11 r12 r13 := by
  obtain ⟨a, b, c, d, d2, k⟩ := H
  exact ⟨a, b, c, d, d2, fun j j0 j1 => st_P_cg (k j j0 j1) (fun i h0 h1 => e _ (by omega))⟩
theorem st_tried {h h2 : ov_H} {c p w x : Int} (S : st_R h) (G : st_G h) (full : h 4 4 < 10) (n4 : h2 4 4 = h 4 4 + 1) (n0 : h2 4 0 = h 4 0) (n1 : h2 4 1 = h 4 1) (n2 : h2 4 2 = h 4 2) (n3 : h2 4 3 = h 4 3) (n5 : h2 4 5 = h 4 5) (q5 : h2 5 = ov_rs (h 5) (h 4 4) c) (q6 : h2 6 = ov_rs (h 6) (h 4 4) x) (xp : (p = 1 → x = w) ∧ (¬ p = 1 → x = -1)) (wr : 0 ≤ w ∧ w ≤ 59) (rr : ∀ a : Int, 7 ≤ a → a < 14 ∨ 15 ≤ a → a < 36 → h2 a = h a) (r104 : h2 104 = h 104) (r96 : h2 96 5 = h 96 5) (u2 : h2 90 20 = h 90 20) (e : h2 103 = ov_rs (ov_rs (ov_rs (ov_rs (h 103) (60 + 3 * h 103 58) c) (60 + 3 * h 103 58 + 1) p) (60 + 3 * h 103 58 + 2) w) 58 (h 103 58 + 1)) : st_R h2 := by
  obtain ⟨⟨sp, tn, tm, tt, tw⟩, H, L⟩ := S
  obtain ⟨⟨g0, g1⟩, ⟨g2, g3⟩, g4⟩ := G
  rw [show (0 : Int) + 58 = 58 by decide] at tn
  rw [show (0 : Int) + 59 = 59 by decide] at tm
  rw [← tn] at e
  have ef : ∀ j : Int, ¬ j = 60 + 3 * h 4 4 → ¬ j = 60 + 3 * h 4 4 + 1 → ¬ j = 60 + 3 * h 4 4 + 2 → ¬ j = 58 → h2 103 j = h 103 j := fun j a b c d => by rw [e, ov_rs_ne d, ov_rs_ne c, ov_rs_ne b, ov_rs_ne a]
  have v3 : h2 103 58 = h 4 4 + 1 := by rw [e, ov_rs_eq]
  have v2 : h2 103 (60 + 3 * h 4 4 + 2) = w := by rw [e, ov_rs_ne (by omega), ov_rs_eq]
  have v1 : h2 103 (60 + 3 * h 4 4 + 1) = p := by rw [e, ov_rs_ne (by omega), ov_rs_ne (by omega), ov_rs_eq]
  have v0 : h2 103 (60 + 3 * h 4 4) = c := by rw [e, ov_rs_ne (by omega), ov_rs_ne (by omega), ov_rs_ne (by omega), ov_rs_eq]
  have lo : ∀ j : Int, j < 58 ∨ 92 ≤ j → h2 103 j = h 103 j := fun j hj => ef j (by omega) (by omega) (by omega) (by omega)
  unfold st_R
  rw [r96, u2, r104]
  refine ⟨⟨?_, ?_, ?_, fun i h0 h1 => ?_, fun i h0 h1 => ?_⟩, ?_, ?_⟩
  · rw [n0, n1, n2, n3]
    exact st_P_cg sp (fun i h0 h1 => lo _ (by omega))
  · rw [n4]
    exact v3.symm
  · rw [n5, tm]
    exact (ef 59 (by omega) (by omega) (by omega) (by decide)).symm
  · rw [q5, q6, show (0 : Int) + 60 + 3 * i = 60 + 3 * i by omega, show (0 : Int) + 61 + 3 * i = 60 + 3 * i + 1 by omega, show (0 : Int) + 62 + 3 * i = 60 + 3 * i + 2 by omega]
    by_cases q : i = h 4 4
    · rw [q, ov_rs_eq, ov_rs_eq, v0, v1, v2]
      exact ⟨rfl, xp.1, xp.2, wr.1, wr.2⟩
    · rw [ov_rs_ne q, ov_rs_ne q, ef _ (by omega) (by omega) (by omega) (by omega), ef _ (by omega) (by omega) (by omega) (by omega), ef _ (by omega) (by omega) (by omega) (by omega)]
      have y := tt i h0 (by omega)
      rw [show (0 : Int) + 60 + 3 * i = 60 + 3 * i by omega, show (0 : Int) + 61 + 3 * i = 60 + 3 * i + 1 by omega, show (0 : Int) + 62 + 3 * i = 60 + 3 * i + 2 by omega] at y
      exact y
  · rw [rr 7 (by decide) (by decide) (by decide), rr 8 (by decide) (by decide) (by decide), lo _ (by omega), lo _ (by omega), lo _ (by omega)]
    exact tw i h0 (by omega)
  · rw [rr 9 (by decide) (by decide) (by decide), rr 10 (by decide) (by decide) (by decide), rr 11 (by decide) (by decide) (by decide), rr 12 (by decide) (by decide) (by decide), rr 13 (by decide) (by decide) (by decide)]
    exact st_H_cg H (fun j hj => lo j (by omega))
  · exact st_L_cg (fun a a0 a1 => rr a (by omega) (by omega) a1) g4 L (fun j j0 j1 => lo j (by omega))
theorem st_was {h h2 : ov_H} {x y s : Int} (S : st_R h) (G : st_G h) (hx : 0 ≤ x ∧ x ≤ 5 ∧ s ≤ 9999) (full : h 4 5 < 8) (n5 : h2 4 5 = h 4 5 + 1) (n0 : h2 4 0 = h 4 0) (n1 : h2 4 1 = h 4 1) (n2 : h2 4 2 = h 4 2) (n3 : h2 4 3 = h 4 3) (n4 : h2 4 4 = h 4 4) (q7 : h2 7 = ov_rs (h 7) (h 4 5) (6 * y + x)) (q8 : h2 8 = ov_rs (h 8) (h 4 5) s) (rr : ∀ a : Int, 5 ≤ a → a < 7 ∨ 9 ≤ a → a < 14 ∨ 15 ≤ a → a < 36 → h2 a = h a) (r104 : h2 104 = h 104) (r96 : h2 96 5 = h 96 5) (u2 : h2 90 20 = h 90 20) (e : h2 103 = ov_rs (ov_rs (ov_rs (ov_rs (h 103) (92 + 3 * h 103 59) x) (92 + 3 * h 103 59 + 1) y) (92 + 3 * h 103 59 + 2) s) 59 (h 103 59 + 1)) : st_R h2 := by
  obtain ⟨⟨sp, tn, tm, tt, tw⟩, H, L⟩ := S
  obtain ⟨⟨g0, g1⟩, ⟨g2, g3⟩, g4⟩ := G
  rw [show (0 : Int) + 58 = 58 by decide] at tn
  rw [show (0 : Int) + 59 = 59 by decide] at tm
  rw [← tm] at e
  have ef : ∀ j : Int, ¬ j = 92 + 3 * h 4 5 → ¬ j = 92 + 3 * h 4 5 + 1 → ¬ j = 92 + 3 * h 4 5 + 2 → ¬ j = 59 → h2 103 j = h 103 j := fun j a b c d => by rw [e, ov_rs_ne d, ov_rs_ne c, ov_rs_ne b, ov_rs_ne a]
  have v3 : h2 103 59 = h 4 5 + 1 := by rw [e, ov_rs_eq]
  have v2 : h2 103 (92 + 3 * h 4 5 + 2) = s := by rw [e, ov_rs_ne (by omega), ov_rs_eq]
  have v1 : h2 103 (92 + 3 * h 4 5 + 1) = y := by rw [e, ov_rs_ne (by omega), ov_rs_ne (by omega), ov_rs_eq]
  have v0 : h2 103 (92 + 3 * h 4 5) = x := by rw [e, ov_rs_ne (by omega), ov_rs_ne (by omega), ov_rs_ne (by omega), ov_rs_eq]
  have lo : ∀ j : Int, j < 59 ∨ 60 ≤ j → j < 92 ∨ 116 ≤ j → h2 103 j = h 103 j := fun j hj hk => ef j (by omega) (by omega) (by omega) (by omega)
  unfold st_R
  rw [r96, u2, r104]
  refine ⟨⟨?_, ?_, ?_, fun i h0 h1 => ?_, fun i h0 h1 => ?_⟩, ?_, ?_⟩
  · rw [n0, n1, n2, n3]
    exact st_P_cg sp (fun i h0 h1 => lo _ (by omega) (by omega))
  · rw [n4, tn]
    exact (lo 58 (by decide) (by decide)).symm
  · rw [n5]
    exact v3.symm
  · rw [rr 5 (by decide) (by decide) (by decide) (by decide), rr 6 (by decide) (by decide) (by decide) (by decide), lo _ (by omega) (by omega), lo _ (by omega) (by omega), lo _ (by omega) (by omega)]
    exact tt i h0 (by omega)
  · rw [q7, q8, show (0 : Int) + 92 + 3 * i = 92 + 3 * i by omega, show (0 : Int) + 93 + 3 * i = 92 + 3 * i + 1 by omega, show (0 : Int) + 94 + 3 * i = 92 + 3 * i + 2 by omega]
    by_cases q : i = h 4 5
    · rw [q, ov_rs_eq, ov_rs_eq, v0, v1, v2]
      exact ⟨rfl, rfl, hx⟩
    · rw [ov_rs_ne q, ov_rs_ne q, ef _ (by omega) (by omega) (by omega) (by omega), ef _ (by omega) (by omega) (by omega) (by omega), ef _ (by omega) (by omega) (by omega) (by omega)]
      have y := tw i h0 (by omega)
      rw [show (0 : Int) + 92 + 3 * i = 92 + 3 * i by omega, show (0 : Int) + 93 + 3 * i = 92 + 3 * i + 1 by omega, show (0 : Int) + 94 + 3 * i = 92 + 3 * i + 2 by omega] at y
      exact y
  · rw [rr 9 (by decide) (by decide) (by decide) (by decide), rr 10 (by decide) (by decide) (by decide) (by decide), rr 11 (by decide) (by decide) (by decide) (by decide), rr 12 (by decide) (by decide) (by decide) (by decide), rr 13 (by decide) (by decide) (by decide) (by decide)]
    exact st_H_cg H (fun j hj => lo j (by omega) (by omega))
  · exact st_L_cg (fun a a0 a1 => rr a (by omega) (by omega) (by omega) a1) g4 L (fun j j0 j1 => lo j (by omega) (by omega))
/-- the state copied, of the class -/
def st_C (q4 q5 q6 q7 q8 r4 r5 r6 r7 r8 : Int → Int) : Prop := (q4 0 = r4 0 ∧ q4 1 = r4 1 ∧ q4 2 = r4 2 ∧ q4 3 = r4 3 ∧ q4 4 = r4 4 ∧ q4 5 = r4 5) ∧ (∀ i : Int, 0 ≤ i → i < 10 → q5 i = r5 i) ∧ (∀ i : Int, 0 ≤ i → i < 10 → q6 i = r6 i) ∧ (∀ i : Int, 0 ≤ i → i < 8 → q7 i = r7 i) ∧ ∀ i : Int, 0 ≤ i → i < 8 → q8 i = r8 i
theorem st_M_cp {R : Int} {f f2 : Int → Int} {o o2 : Int} {q4 q5 q6 q7 q8 r4 r5 r6 r7 r8 : Int → Int} (M : st_M R f o r4 r5 r6 r7 r8) (C : st_C q4 q5 q6 q7 q8 r4 r5 r6 r7 r8) (b : r4 4 ≤ 10 ∧ r4 5 ≤ 8) (e : ∀ i : Int, 0 ≤ i → i < 120 → f2 (o2 + i) = f (o + i)) : st_M R f2 o2 q4 q5 q6 q7 q8 := by
  obtain ⟨p, t⟩ := M
  obtain ⟨⟨c0, c1, c2, c3, c4, c5⟩, k5, k6, k7, k8⟩ := C
  unfold st_M
  rw [c0, c1, c2, c3, c4, c5]
  exact ⟨st_P_cg p (fun i h0 h1 => e i h0 (by omega)), st_T_rw (st_T_cg t b.1 b.2 (fun i h0 h1 => e i (by omega) h1)) b.1 b.2 k5 k6 k7 k8⟩
theorem st_lay {h h2 : ov_H} {m : Int} (S : st_R h) (G : st_G h) (hm : 0 ≤ m ∧ m ≤ 3) (q35 : h2 35 = ov_rs (h 35) m 1) (C : st_C (h2 (15 + 5 * m)) (h2 (16 + 5 * m)) (h2 (17 + 5 * m)) (h2 (18 + 5 * m)) (h2 (19 + 5 * m)) (h 4) (h 5) (h 6) (h 7) (h 8)) (rr : ∀ a : Int, 4 ≤ a → a < 14 ∨ 15 ≤ a → a < 35 → a < 15 + 5 * m ∨ 20 + 5 * m ≤ a → h2 a = h a) (r104 : h2 104 = ov_rs (h 104) m 1) (r96 : h2 96 5 = h 96 5) (u2 : h2 90 20 = h 90 20) (e : h2 103 = cp_f (h 103) 0 (1 + m) 120) : st_R h2 := by
  obtain ⟨M, H, L⟩ := S
  have lo : ∀ j : Int, j < 120 * (1 + m) ∨ 120 * (1 + m) + 120 ≤ j → h2 103 j = h 103 j := fun j hj => by rw [e]; exact cp_f_o (by omega)
  unfold st_R st_L
  rw [r96, u2]
  have R4 : ∀ a : Int, 4 ≤ a → a < 14 → h2 a = h a := fun a a0 a1 => rr a a0 (Or.inl a1) (by omega) (by omega)
  refine ⟨?_, ?_, fun k k0 k1 => ?_⟩
  · rw [R4 4 (by decide) (by decide), R4 5 (by decide) (by decide), R4 6 (by decide) (by decide), R4 7 (by decide) (by decide), R4 8 (by decide) (by decide)]
    exact ⟨st_P_cg M.1 (fun i h0 h1 => lo _ (by omega)), st_T_cg M.2 G.1.2 G.2.1.2 (fun i h0 h1 => lo _ (by omega))⟩
  · rw [R4 9 (by decide) (by decide), R4 10 (by decide) (by decide), R4 11 (by decide) (by decide), R4 12 (by decide) (by decide), R4 13 (by decide) (by decide)]
    exact st_H_cg H (fun j hj => lo j (by omega))
  · rw [q35, r104]
    by_cases w : k = m
    · rw [w, ov_rs_eq, ov_rs_eq]
      refine ⟨rfl, fun _ => st_M_cp M C ⟨G.1.2, G.2.1.2⟩ (fun i h0 h1 => ?_)⟩
      rw [e, cp_f_i (by omega) h0 h1]
      exact congrArg (h 103) (by omega)
    · rw [ov_rs_ne w, ov_rs_ne w, rr (15 + 5 * k) (by omega) (by omega) (by omega) (by omega), rr (16 + 5 * k) (by omega) (by omega) (by omega) (by omega), rr (17 + 5 * k) (by omega) (by omega) (by omega) (by omega), rr (18 + 5 * k) (by omega) (by omega) (by omega) (by omega), rr (19 + 5 * k) (by omega) (by omega) (by omega) (by omega)]
      obtain ⟨a, b⟩ := L k k0 k1
      refine ⟨a, fun q => ?_⟩
      obtain ⟨p, t⟩ := b q
      have tt := G.2.2 k k0 k1
      exact ⟨st_P_cg p (fun i h0 h1 => lo _ (by omega)), st_T_cg t tt.1 tt.2 (fun i h0 h1 => lo _ (by omega))⟩
theorem st_back {h h2 : ov_H} {m : Int} (S : st_R h) (G : st_G h) (hm : 0 ≤ m ∧ m ≤ 3) (l : h 35 m = 1) (C : st_C (h2 4) (h2 5) (h2 6) (h2 7) (h2 8) (h (15 + 5 * m)) (h (16 + 5 * m)) (h (17 + 5 * m)) (h (18 + 5 * m)) (h (19 + 5 * m))) (s9 : h2 9 0 = 0) (t9 : h2 9 1 = h 9 1) (rr : ∀ a : Int, 15 ≤ a → a < 36 → h2 a = h a) (r104 : h2 104 = ov_rs (h 104) m 1) (r96 : h2 96 5 = h 96 5) (u2 : h2 90 20 = 0) (e : h2 103 = cp_f (h 103) (1 + m) 0 120) : st_R h2 := by
  obtain ⟨M, H, L⟩ := S
  obtain ⟨a, b, c, d, d2, k⟩ := H
  obtain ⟨la, lb⟩ := L m hm.1 (by omega)
  have lo : ∀ j : Int, 120 ≤ j → h2 103 j = h 103 j := fun j hj => by rw [e]; exact cp_f_o (by omega)
  have e4 : h2 104 = h 104 := by
    rw [r104]
    funext j
    by_cases w : j = m
    · rw [w, ov_rs_eq]
      omega
    · exact ov_rs_ne w
  unfold st_R
  rw [r96, u2, e4]
  refine ⟨st_M_cp (lb (by omega)) C (G.2.2 m hm.1 (by omega)) (fun i h0 h1 => ?_), ⟨s9, by decide, by decide, by omega, by omega, fun j j0 j1 => absurd j1 (by omega)⟩, ?_⟩
  · rw [e, cp_f_i (by decide) h0 h1]
    exact congrArg (h 103) (by omega)
  · exact st_L_cg (fun a a0 a1 => rr a a0 a1) G.2.2 L (fun j j0 j1 => lo j (by omega))
theorem st_begin {h : ov_H} (c35 : ∀ m : Int, 0 ≤ m → m < 4 → h 35 m = 0) (c0 : h 4 0 = 0) (c1 : h 4 1 = 0) (c2 : h 4 2 = 0) (c3 : h 4 3 = 0) (c4 : h 4 4 = 0) (c5 : h 4 5 = 0) (s9 : h 9 0 = 0) (t9 : 0 ≤ h 9 1 ∧ h 9 1 < 16) (c104 : ∀ m : Int, 0 ≤ m → m < 4 → h 104 m = 0) (u : h 90 20 = 0) (e : ∀ j : Int, 0 ≤ j → j < 120 → h 103 j = 0) (r : 0 ≤ h 96 5) : st_R h := by
  unfold st_R st_M st_H st_P st_T
  rw [c0, c1, c2, c3, c4, c5, u]
  refine ⟨⟨⟨?_, ?_, ?_, by decide, r, fun q q0 q1 => ?_⟩, ?_, ?_, fun i h0 h1 => absurd h1 (by omega), fun i h0 h1 => absurd h1 (by omega)⟩, ⟨s9, by decide, by decide, t9.1, t9.2, fun j j0 j1 => absurd j1 (by omega)⟩, fun m m0 m1 => ?_⟩
  · rw [e _ (by decide) (by decide), e _ (by decide) (by decide)]
    rfl
  · exact (e _ (by decide) (by decide)).symm
  · exact (e _ (by decide) (by decide)).symm
  · rw [kb_0 q0 q1, e _ (by omega) (by omega)]
  · exact (e _ (by decide) (by decide)).symm
  · exact (e _ (by decide) (by decide)).symm
  · have a := c35 m m0 m1
    have b := c104 m m0 m1
    exact ⟨by omega, fun q => by omega⟩
/-! what the class's steps leave -/
theorem ov_cp_i {h : ov_H} {s t n j : Int} (h0 : 0 ≤ j) (h1 : j < n) : ov_cp h s t n t j = h s j := by
  unfold ov_cp
  rw [if_pos ⟨rfl, h0, h1⟩]
theorem st_K_up {h h1 : ov_H} {k x : Int} (K : st_K h h1) : st_K h (ov_up h1 4 k x) := by
  have e : ∀ a : Int, 9 ≤ a → ov_up h1 4 k x a = h1 a := fun a ha => ov_up_ne (by omega)
  unfold st_K
  rw [e 9 (by decide), e 10 (by decide), e 11 (by decide), e 12 (by decide), e 13 (by decide)]
  exact K
/-- nothing has changed -/
def st_Z (h h' : ov_H) : Prop := ∀ a : Int, 0 ≤ a → h' a = h a
/-- a step given back -/
def st_B (h h' : ov_H) : Prop := h' 9 1 = (h 9 1 + 15) % 16 ∧ h' 9 0 = h 9 0 - 1 ∧ h' 4 0 = h 10 ((h 9 1 + 15) % 16) ∧ h' 4 1 = h 11 ((h 9 1 + 15) % 16) ∧ h' 4 2 = h 12 ((h 9 1 + 15) % 16) ∧ h' 4 3 = h 13 ((h 9 1 + 15) % 16) ∧ h' 4 4 = h 4 4 ∧ h' 4 5 = h 4 5
/-- a try, a sighting added -/
def st_At (h h' : ov_H) (w p t : Int) : Prop := (h' 4 4 = h 4 4 + 1 ∧ h' 4 0 = h 4 0 ∧ h' 4 1 = h 4 1 ∧ h' 4 2 = h 4 2 ∧ h' 4 3 = h 4 3 ∧ h' 4 5 = h 4 5) ∧ h' 5 = ov_rs (h 5) (h 4 4) w ∧ ∃ x : Int, h' 6 = ov_rs (h 6) (h 4 4) x ∧ (p = 1 → x = t) ∧ (¬ p = 1 → x = -1)
def st_As (h h' : ov_H) (w t : Int) : Prop := (h' 4 5 = h 4 5 + 1 ∧ h' 4 0 = h 4 0 ∧ h' 4 1 = h 4 1 ∧ h' 4 2 = h 4 2 ∧ h' 4 3 = h 4 3 ∧ h' 4 4 = h 4 4) ∧ h' 7 = ov_rs (h 7) (h 4 5) w ∧ h' 8 = ov_rs (h 8) (h 4 5) t
def st_Xgo (r0 r1 r2 r3 r4 r6 r7 : Int → Int) (h h' : ov_H) (way run r : Int) : Prop := (r = -1 ∧ ¬ ((way = 0 ∧ r7 (h 4 0) % 2 = 1 ∨ way = 1 ∧ r7 (h 4 0) / 2 = 1) ∧ (run = 0 ∨ ¬ r0 8 = 1 ∧ h 4 2 < r6 3)) ∧ st_Z h h') ∨
  (((way = 0 ∧ r7 (h 4 0) % 2 = 1 ∨ way = 1 ∧ r7 (h 4 0) / 2 = 1) ∧ (run = 0 ∨ ¬ r0 8 = 1 ∧ h 4 2 < r6 3)) ∧ h' 4 1 = r ∧ (run = 0 ∧ r = h 4 1 + (ov_wtv (r1 (h 4 0)) (r2 (h 4 0)) (r3 (h 4 0)) (r4 (h 4 0)) way (h 4 1) + r6 0) ∨ ¬ run = 0 ∧ r = h 4 1 + (ov_wtv (r1 (h 4 0)) (r2 (h 4 0)) (r3 (h 4 0)) (r4 (h 4 0)) way (h 4 1) + r6 1)) ∧ st_K h h' ∧ h' 4 0 = h 4 0 + 1 + 5 * way ∧ h' 4 2 = h 4 2 + run ∧ h' 4 3 = h 4 3 ∧ h' 4 4 = h 4 4 ∧ h' 4 5 = h 4 5)
def st_Xlk (r1 : Int → Int) (h h' : ov_H) (r : Int) : Prop := (r = 0 ∧ ¬ (r1 (h 4 0) = 1 ∧ ov_kb (h 4 3) (h 4 0) = 0) ∧ st_Z h h') ∨ (r = 1 ∧ (r1 (h 4 0) = 1 ∧ ov_kb (h 4 3) (h 4 0) = 0) ∧ st_K h h' ∧ h' 4 3 = ov_lor (h 4 3) (ov_lshl 1 (h 4 0)) ∧ h' 4 0 = h 4 0 ∧ h' 4 1 = h 4 1 ∧ h' 4 2 = h 4 2 ∧ h' 4 4 = h 4 4 ∧ h' 4 5 = h 4 5)
def st_Xtr (r0 r1 : Int → Int) (h h' : ov_H) (x y p w r : Int) : Prop := (r = 0 ∧ ¬ (0 ≤ x ∧ x < r0 0 ∧ 0 ≤ y ∧ y < r0 1 ∧ r1 (6 * y + x) = 2 ∧ 0 ≤ w ∧ w ≤ 59 ∧ h 4 4 < 10) ∧ st_Z h h') ∨ (r = 1 ∧ (0 ≤ x ∧ x < r0 0 ∧ 0 ≤ y ∧ y < r0 1 ∧ r1 (6 * y + x) = 2 ∧ 0 ≤ w ∧ w ≤ 59 ∧ h 4 4 < 10) ∧ st_At h h' (6 * y + x) p w)
def st_Xwa (r0 : Int → Int) (h h' : ov_H) (x y s r : Int) : Prop := (r = 0 ∧ ¬ (0 ≤ x ∧ x < r0 0 ∧ 0 ≤ y ∧ y < r0 1 ∧ 0 ≤ s ∧ s ≤ 9999 ∧ h 4 5 < 8) ∧ st_Z h h') ∨ (r = 1 ∧ (0 ≤ x ∧ x < r0 0 ∧ 0 ≤ y ∧ y < r0 1 ∧ 0 ≤ s ∧ s ≤ 9999 ∧ h 4 5 < 8) ∧ st_As h h' (6 * y + x) s)
/-- a mark laid, or gone back to -/
def st_Mk (h h' : ov_H) (m b : Int) : Prop := b = 0 ∧ h' 35 = ov_rs (h 35) m 1 ∧ st_C (h' (15 + 5 * m)) (h' (16 + 5 * m)) (h' (17 + 5 * m)) (h' (18 + 5 * m)) (h' (19 + 5 * m)) (h 4) (h 5) (h 6) (h 7) (h 8) ∧ (∀ a : Int, 4 ≤ a → a < 35 → a < 15 + 5 * m ∨ 20 + 5 * m ≤ a → h' a = h a) ∨
  b = 1 ∧ st_C (h' 4) (h' 5) (h' 6) (h' 7) (h' 8) (h (15 + 5 * m)) (h (16 + 5 * m)) (h (17 + 5 * m)) (h (18 + 5 * m)) (h (19 + 5 * m)) ∧ h' 9 0 = 0 ∧ h' 9 1 = h 9 1 ∧ ∀ a : Int, 15 ≤ a → a < 36 → h' a = h a
theorem st_C_rw {p4 p5 p6 p7 p8 q4 q5 q6 q7 q8 r4 r5 r6 r7 r8 : Int → Int} (C : st_C q4 q5 q6 q7 q8 r4 r5 r6 r7 r8) (e4 : p4 = q4) (e5 : p5 = q5) (e6 : p6 = q6) (e7 : p7 = q7) (e8 : p8 = q8) : st_C p4 p5 p6 p7 p8 r4 r5 r6 r7 r8 := by
  subst e4 e5 e6 e7 e8
  exact C

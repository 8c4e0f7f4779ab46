/-! the law: its script, and what holds between calls -/
def ov_xs (xs : Nat → Int32) (i : Int) : Int := (xs i.toNat).toInt
theorem ov_xs_g (xs : Nat → Int32) (i : Int) : ov_g (ov_xs xs i) := ov_g32 _
abbrev ov_SC (u : ov_U) (L : Nat) (xs : Nat → Int32) : Prop := va_X (u.2.2.2.2.2.1 (-4)) L xs (ov_s0 u) (ov_s0 u).heap
theorem ov_scl {u : ov_U} {d : Nat} {M : ov_M} {pc : Nat} {ls : List (Nat × ov_V)} {st : List ov_V} {z : ov_Z} {h : ov_H} {Q : Option ov_V → ov_Z → ov_H → Prop} {L : Nat} {xs : Nat → Int32} {i : Int} (X : ov_SC u L xs) (hd : decode M.2.1 pc = .ok (.iaload, 1)) (hi : 0 ≤ i ∧ i < L ∧ i ≤ 2147483647) (k : ov_R u d M (pc + 1) ls (ov_i (ov_xs xs i) :: st) z h Q) : ov_R u d M pc ls (ov_i i :: ov_r (-4) :: st) z h Q := by
  intro hu p e s m args below meth c H locs cells slots lr n0 g0 C hRp hlocs hl
  have K := k hu p e s m args below meth c H locs cells slots lr n0 g0 C hRp hlocs hl
  obtain ⟨hx, hb, hml, hret, hown, hlk, hnm, hW0, hn0, hg0⟩ := C
  obtain ⟨scr, h1, h2, h3, h4, h5⟩ := (va_X.moved hW0.alike X).kept (H1 := H) (hRp.2.2.2.2.1 _ (hu.2.2.2 (-4) (by decide)))
  simp only [List.map_cons] at K ⊢
  rw [ov_rvn u (by decide)]
  have e1 : (Int32.ofInt i).toNatClampNeg = i.toNat := ov_ix ⟨hi.1, hi.2.2⟩
  refine W.iald (v := .int (xs i.toNat)) hx hb h1 h2 h3 (by rw [h4]; exact ov_ixn hi) (by rw [e1]; exact h5 _ (by omega)) rfl rfl hd ?_
  rw [show ov_tv u (ov_i (ov_xs xs i)) = .int (xs i.toNat) by show Value.int (Int32.ofInt _) = _; unfold ov_xs; rw [Int32.ofInt_toInt]] at K
  exact K
theorem ov_scn {u : ov_U} {d : Nat} {M : ov_M} {pc : Nat} {ls : List (Nat × ov_V)} {st : List ov_V} {z : ov_Z} {h : ov_H} {Q : Option ov_V → ov_Z → ov_H → Prop} {L : Nat} {xs : Nat → Int32} (X : ov_SC u L xs) (hd : decode M.2.1 pc = .ok (.arraylength, 1)) (k : ov_R u d M (pc + 1) ls (ov_i (L : Int) :: st) z h Q) : ov_R u d M pc ls (ov_r (-4) :: st) z h Q := by
  intro hu p e s m args below meth c H locs cells slots lr n0 g0 C hRp hlocs hl
  have K := k hu p e s m args below meth c H locs cells slots lr n0 g0 C hRp hlocs hl
  obtain ⟨hx, hb, hml, hret, hown, hlk, hnm, hW0, hn0, hg0⟩ := C
  obtain ⟨scr, h1, h2, h3, h4, h5⟩ := (va_X.moved hW0.alike X).kept (H1 := H) (hRp.2.2.2.2.1 _ (hu.2.2.2 (-4) (by decide)))
  simp only [List.map_cons] at K ⊢
  rw [ov_rvn u (by decide)]
  refine W.alen (n := Int32.ofInt (L : Int)) hx hb h1 h2 ?_ rfl rfl hd K
  rw [h4, Int32.ofInt_eq_ofNat]
/-- rows below 0 are no cells of the machine -/
theorem ov_gho {u : ov_U} {d : Nat} {M : ov_M} {pc : Nat} {ls : List (Nat × ov_V)} {st : List ov_V} {z : ov_Z} {h : ov_H} {Q : Option ov_V → ov_Z → ov_H → Prop} (h' : ov_H) (e : ∀ a : Int, 0 ≤ a → h a = h' a) (k : ov_R u d M pc ls st z h' Q) : ov_R u d M pc ls st z h Q := by
  intro hu p e' s m args below meth c H locs cells slots lr n0 g0 C hRp hlocs hl
  refine k hu p e' s m args below meth c H locs cells slots lr n0 g0 C ?_ hlocs hl
  obtain ⟨r1, r2, r3, r4, r5, r6⟩ := hRp
  refine ⟨r1, r2, r3, r4, r5, fun a ha => ?_⟩
  rw [← e (a : Int) (by omega)]
  exact r6 a ha
def ov_HR (h : ov_H) : Prop := h 0 10 = 58 ∧ h 0 11 = 70 ∧ 0 ≤ h 64 0 ∧ 1 ≤ h 58 0 ∧ 1 ≤ h 58 1 ∨ h 0 10 = 70 ∧ h 0 11 = 58 ∧ 0 ≤ h 76 0 ∧ 1 ≤ h 70 0 ∧ 1 ≤ h 70 1
def ov_PMh (h : ov_H) : Prop := ov_PM (h 96) (h 103) (h 97) (h 98) (h 105) (h 106) (h 90 22) (h 90 25) (h 90 26) (h 90 28) (h 90 29) (h 90 30)
/-- what holds between the calls: version and stamps bounded by v and s -/
def ov_LK (v s : Int) (z : ov_Z) (h : ov_H) : Prop := ov_J z h ∧ ov_N (h, z) z h ∧ (h 36 7 = 1 → h 36 8 = h 0 10) ∧ ov_HR h ∧ ov_WT (h 96) ∧ ov_CD (h 96) (h 97) (h 98) ∧ ov_WK (h 100) ∧ ov_PMh h ∧ (0 ≤ h 90 22 ∧ h 90 22 ≤ v) ∧ (0 ≤ h 90 25 ∧ h 90 25 ≤ s)
/-- F for a call of the class that leaves the rows of M -/
def ov_FF (M : Nat) (h : ov_H) : ov_H := fun a => if a = -5 then (fun T => if 1 ≤ h T 0 ∧ 1 ≤ h T 1 then 1 else 0) else if a = -6 then (fun b => if Nat.testBit M b.toNat = true then 1 else 0) else h a
theorem ov_FF_ge {M : Nat} {h : ov_H} {b : Int} (hb : 0 ≤ b) : ov_FF M h b = h b := by
  unfold ov_FF
  rw [if_neg (by omega), if_neg (by omega)]
theorem ov_FF_5 {M : Nat} {h : ov_H} {T : Int} : ov_FF M h (-5) T = if 1 ≤ h T 0 ∧ 1 ≤ h T 1 then 1 else 0 := rfl
theorem ov_FF_6 {M : Nat} {h : ov_H} {b : Int} : ov_FF M h (-6) b = if Nat.testBit M b.toNat = true then 1 else 0 := by
  unfold ov_FF
  rw [if_neg (by decide), if_pos rfl]
theorem ov_FF_w {M m : Nat} {h : ov_H} (e : m &&& M = 0) : ov_kw m (ov_FF M h) := fun b q w => by
  rw [ov_FF_6] at w
  by_cases y : Nat.testBit M b.toNat = true
  · have z : Nat.testBit (m &&& M) b.toNat = true := by rw [Nat.testBit_and, q, y]; rfl
    rw [e, Nat.zero_testBit] at z
    exact absurd z Bool.false_ne_true
  · rw [if_neg y] at w
    omega
/-- a row that was left -/
theorem ov_FF_k {M : Nat} {h h1 : ov_H} {z1 : ov_Z} {b : Int} (I1 : ov_I (ov_FF M h) z1 h1) (hb : ov_kq b) (e : Nat.testBit M b.toNat = true) : h1 b = h b := (I1.2.2.2 b hb (by rw [ov_FF_6, if_pos e])).trans (ov_FF_ge (by unfold ov_kq at hb; omega))
theorem ov_LK_I {M : Nat} {v s : Int} {z : ov_Z} {h : ov_H} (K : ov_LK v s z h) : ov_I (ov_FF M h) z h := ⟨K.1, fun b h0 h1 => (ov_FF_ge (by omega)).symm, fun T hT hf => by
  rw [ov_FF_5] at hf
  by_cases q : 1 ≤ h T 0 ∧ 1 ≤ h T 1
  · exact q
  · rw [if_neg q] at hf
    omega, fun b hb _ => (ov_FF_ge (by unfold ov_kq at hb; omega)).symm⟩
theorem ov_LK_W {M : Nat} {v s : Int} {z : ov_Z} {h : ov_H} (K : ov_LK v s z h) : (h 0 10 = 58 ∧ h 0 11 = 70 ∧ 0 ≤ h 64 0 ∧ ov_FF M h (-5) 58 = 1 ∨ h 0 10 = 70 ∧ h 0 11 = 58 ∧ 0 ≤ h 76 0 ∧ ov_FF M h (-5) 70 = 1) := by
  rcases K.2.2.2.1 with ⟨a, b, c, q⟩ | ⟨a, b, c, q⟩
  · exact Or.inl ⟨a, b, c, by rw [ov_FF_5, if_pos q]⟩
  · exact Or.inr ⟨a, b, c, by rw [ov_FF_5, if_pos q]⟩
/-- both tapes bear the same signs, the reference has its words -/
def ov_S3 (h : ov_H) : Prop := h 2 = h 91 ∧ pt_WD (h 95) ∧ ov_HT h (h 96) ∧ st_R h
theorem ov_HR_k {F h h1 : ov_H} {z1 : ov_Z} (W : h 0 10 = 58 ∧ h 0 11 = 70 ∧ 0 ≤ h 64 0 ∧ F (-5) 58 = 1 ∨ h 0 10 = 70 ∧ h 0 11 = 58 ∧ 0 ≤ h 76 0 ∧ F (-5) 70 = 1) (I1 : ov_I F z1 h1) (e1 : h1 0 10 = h 0 10) (e2 : h1 0 11 = h 0 11) (e3 : h1 64 0 = h 64 0) (e4 : h1 76 0 = h 76 0) : ov_HR h1 := by
  rcases W with ⟨a, b, c, q⟩ | ⟨a, b, c, q⟩
  · have := fg_58 I1 q
    exact Or.inl ⟨by omega, by omega, by omega, this⟩
  · have := fg_70 I1 q
    exact Or.inr ⟨by omega, by omega, by omega, this⟩
theorem ov_up77 {h : ov_H} {B a : Int} (ha : 0 ≤ a) : ov_up h (-77) 0 B a = h a := ov_up_ne (by omega)
theorem ov_J_up {z : ov_Z} {h : ov_H} {B : Int} (J : ov_J z h) : ov_J z (ov_up h (-77) 0 B) := by
  refine ⟨J.1, fun a k h0 h1 => by rw [ov_up77 h0]; exact J.2.1 a k h0 h1, ?_⟩
  obtain ⟨n1, n2, n3, q⟩ := J.2.2
  refine ⟨n1, n2, n3, ?_⟩
  rw [ov_up77 (by decide), ov_up77 (by decide), ov_up77 (by decide)]
  exact q
theorem ov_mr_le {B B' : Int} (hB : B ≤ B') : ∀ (a : Nat) (k x : Int), a < 25 → ov_mr B (90 + a) k x → ov_mr B' (90 + a) k x
  | 0, _, _, _, q => q
  | 1, _, _, _, q => q
  | 2, _, _, _, q => q
  | 3, _, _, _, q => q
  | 4, _, _, _, q => q
  | 5, _, _, _, q => q
  | 6, _, _, _, q => q
  | 7, _, _, _, q => q
  | 8, _, _, _, q => q
  | 9, _, _, _, q => q
  | 10, _, _, _, q => q
  | 11, _, _, _, q => q
  | 12, _, _, _, q => q
  | 13, k, x, _, q => by
    have w : ov_mr103 B k x := q
    show ov_mr103 B' k x
    unfold ov_mr103 at w ⊢
    exact ⟨w.1, w.2.1, w.2.2.1, fun e => ⟨(w.2.2.2.1 e).1, Int.le_trans (w.2.2.2.1 e).2 hB⟩, w.2.2.2.2⟩
  | 14, _, _, _, q => q
  | 15, _, _, _, q => q
  | 16, _, _, _, q => q
  | 17, _, _, _, q => q
  | 18, _, _, _, q => q
  | 19, _, _, _, q => q
  | 20, _, _, _, q => q
  | 21, _, _, _, q => q
  | 22, _, _, _, q => q
  | 23, _, _, _, q => q
  | 24, _, _, _, q => q
  | n + 25, _, _, h, _ => absurd h (by omega)
/-- the class has answered -/
theorem ov_LK_c {v s : Int} {z z1 : ov_Z} {h F h1 : ov_H} (K : ov_LK v s z h) (I1 : ov_I F z1 h1) (hF : ∀ b : Int, 90 ≤ b → b < 115 → F b = h b) (hJ : h1 36 7 = 1 → h1 36 8 = h1 0 10) (hH : ov_HR h1) {B : Int} (hB : h (-77) 0 ≤ B) : ov_LK v s z1 (ov_up h1 (-77) 0 B) := by
  have e : ∀ b : Int, 90 ≤ b → b < 115 → ov_up h1 (-77) 0 B b = h b := fun b h0 h1' => by rw [ov_up77 (by omega), I1.2.1 b h0 h1']; exact hF b h0 h1'
  refine ⟨ov_J_up I1.1, ⟨rfl, ⟨I1.1.1.1, I1.1.1.2⟩, fun a k h0 h1' => ?_, fun _ _ => rfl⟩, ?_, ?_, ?_, ?_, ?_, ?_, ?_, ?_⟩
  · rw [e a h0 h1']
    have q := ov_mr_le (B := h (-77) 0) (B' := B) hB (a.toNat - 90) k (h a k) (by omega) (by rw [show 90 + (a.toNat - 90) = a.toNat by omega]; exact K.2.1.2.2.1 a k h0 h1')
    rw [show 90 + (a.toNat - 90) = a.toNat by omega] at q
    exact q
  · rw [ov_up77 (by decide), ov_up77 (by decide)]
    exact hJ
  · unfold ov_HR
    rw [ov_up77 (by decide), ov_up77 (by decide), ov_up77 (by decide), ov_up77 (by decide), ov_up77 (by decide)]
    exact hH
  · rw [e 96 (by decide) (by decide)]
    exact K.2.2.2.2.1
  · rw [e 96 (by decide) (by decide), e 97 (by decide) (by decide), e 98 (by decide) (by decide)]
    exact K.2.2.2.2.2.1
  · rw [e 100 (by decide) (by decide)]
    exact K.2.2.2.2.2.2.1
  · unfold ov_PMh
    rw [e 96 (by decide) (by decide), e 97 (by decide) (by decide), e 98 (by decide) (by decide), e 103 (by decide) (by decide), e 105 (by decide) (by decide), e 106 (by decide) (by decide), e 90 (by decide) (by decide)]
    exact K.2.2.2.2.2.2.2.1
  · rw [e 90 (by decide) (by decide)]
    exact K.2.2.2.2.2.2.2.2.1
  · rw [e 90 (by decide) (by decide)]
    exact K.2.2.2.2.2.2.2.2.2
theorem ov_pr_ref : ∀ (a : Nat) (k x : Int), a < 25 → ov_pr (90 + a) k x
  | 0, _, _, _ => trivial
  | 1, _, _, _ => trivial
  | 2, _, _, _ => trivial
  | 3, _, _, _ => trivial
  | 4, _, _, _ => trivial
  | 5, _, _, _ => trivial
  | 6, _, _, _ => trivial
  | 7, _, _, _ => trivial
  | 8, _, _, _ => trivial
  | 9, _, _, _ => trivial
  | 10, _, _, _ => trivial
  | 11, _, _, _ => trivial
  | 12, _, _, _ => trivial
  | 13, _, _, _ => trivial
  | 14, _, _, _ => trivial
  | 15, _, _, _ => trivial
  | 16, _, _, _ => trivial
  | 17, _, _, _ => trivial
  | 18, _, _, _ => trivial
  | 19, _, _, _ => trivial
  | 20, _, _, _ => trivial
  | 21, _, _, _ => trivial
  | 22, _, _, _ => trivial
  | 23, _, _, _ => trivial
  | 24, _, _, _ => trivial
  | n + 25, _, _, h => absurd h (by omega)
/-- the reference has answered -/
theorem ov_LK_r {v s v' s' : Int} {z z' : ov_Z} {h h' : ov_H} (K : ov_LK v s z h) (N' : ov_N (h, z) z' h') (w : ov_WT (h' 96)) (cd : ov_CD (h' 96) (h' 97) (h' 98)) (wk : ov_WK (h' 100)) (pm : ov_PMh h') (hv : 0 ≤ h' 90 22 ∧ h' 90 22 ≤ v') (hs : 0 ≤ h' 90 25 ∧ h' 90 25 ≤ s') : ov_LK v' s' z' h' := by
  have ez : z' = z := N'.1
  subst ez
  have e : ∀ b : Int, b < 90 → h' b = h b := fun b hb => N'.2.2.2 b (Or.inl hb)
  refine ⟨⟨K.1.1, fun a k h0 h1 => ?_, ?_⟩, ⟨rfl, N'.2.1, fun a k h0 h1 => ?_, fun _ _ => rfl⟩, ?_, ?_, w, cd, wk, pm, hv, hs⟩
  · by_cases q : a < 90
    · rw [e a q]
      exact K.1.2.1 a k h0 h1
    · have q2 := ov_pr_ref (a.toNat - 90) k (h' a k) (by omega)
      rw [show 90 + (a.toNat - 90) = a.toNat by omega] at q2
      exact q2
  · obtain ⟨n1, n2, n3, q⟩ := K.1.2.2
    refine ⟨n1, n2, n3, ?_⟩
    rw [e 37 (by decide), e 40 (by decide), e 51 (by decide)]
    exact q
  · have eb : ov_bd (h, z') = ov_bd (h', z') := by
      show h (-77) 0 = h' (-77) 0
      rw [e (-77) (by decide)]
    rw [← eb]
    exact N'.2.2.1 a k h0 h1
  · rw [e 36 (by decide), e 0 (by decide)]
    exact K.2.2.1
  · unfold ov_HR
    rw [e 0 (by decide), e 64 (by decide), e 58 (by decide), e 76 (by decide), e 70 (by decide)]
    exact K.2.2.2.1
/-- .. a question that leaves town, walk, state and memo -/
theorem ov_LK_r0 {v s v' s' : Int} {z z' : ov_Z} {h h' : ov_H} (K : ov_LK v s z h) (N' : ov_N (h, z) z' h') (e96 : h' 96 = h 96) (e97 : h' 97 = h 97) (e98 : h' 98 = h 98) (e100 : h' 100 = h 100) (e103 : h' 103 = h 103) (e105 : h' 105 = h 105) (e106 : h' 106 = h 106) (f : h' 90 22 = h 90 22 ∧ h' 90 25 = h 90 25 ∧ h' 90 26 = h 90 26 ∧ h' 90 28 = h 90 28 ∧ h' 90 29 = h 90 29 ∧ h' 90 30 = h 90 30) (hv : v ≤ v') (hs : s ≤ s') : ov_LK v' s' z' h' := by
  obtain ⟨f1, f2, f3, f4, f5, f6⟩ := f
  have q1 := K.2.2.2.2.2.2.2.2.1
  have q2 := K.2.2.2.2.2.2.2.2.2
  refine ov_LK_r K N' (by rw [e96]; exact K.2.2.2.2.1) (by rw [e96, e97, e98]; exact K.2.2.2.2.2.1) (by rw [e100]; exact K.2.2.2.2.2.2.1) ?_ (by omega) (by omega)
  unfold ov_PMh
  rw [e96, e97, e98, e103, e105, e106, f1, f2, f3, f4, f5, f6]
  exact K.2.2.2.2.2.2.2.1
/-- .. a step that leaves the lights known -/
theorem ov_LK_r4 {v s v' s' : Int} {z z' : ov_Z} {h h' : ov_H} (K : ov_LK v s z h) (N' : ov_N (h, z) z' h') (e96 : h' 96 = h 96) (e97 : h' 97 = h 97) (e98 : h' 98 = h 98) (e100 : h' 100 = h 100) (x4 : ∀ j : Int, 4 ≤ j → j ≤ 57 → h' 103 j = h 103 j) (e105 : h' 105 = h 105) (e106 : h' 106 = h 106) (f : h' 90 22 = h 90 22 ∧ h' 90 25 = h 90 25 ∧ h' 90 26 = h 90 26 ∧ h' 90 28 = h 90 28 ∧ h' 90 29 = h 90 29 ∧ h' 90 30 = h 90 30) (hv : v ≤ v') (hs : s ≤ s') : ov_LK v' s' z' h' := by
  obtain ⟨f1, f2, f3, f4, f5, f6⟩ := f
  have q1 := K.2.2.2.2.2.2.2.2.1
  have q2 := K.2.2.2.2.2.2.2.2.2
  refine ov_LK_r K N' (by rw [e96]; exact K.2.2.2.2.1) (by rw [e96, e97, e98]; exact K.2.2.2.2.2.1) (by rw [e100]; exact K.2.2.2.2.2.2.1) ?_ (by omega) (by omega)
  have m := ov_PM_con (f' := h' 96) (s' := h' 103) (g' := h' 97) (p' := h' 98) K.2.2.2.2.2.2.2.1 (fun j _ => by rw [e96]) x4 (fun j _ => by rw [e97]) (fun j _ => by rw [e98]) K.2.2.2.2.2.1 (t96_8 K.2.1).2 (t96_0 K.2.1).2 (t96_1 K.2.1).2
  unfold ov_PMh
  rw [e105, e106, f1, f2, f3, f4, f5, f6]
  exact m
/-- .. a step that raises the version, or changes nothing of it -/
theorem ov_LK_rv {v s v' s' : Int} {z z' : ov_Z} {h h' : ov_H} (K : ov_LK v s z h) (N' : ov_N (h, z) z' h') (e96 : h' 96 = h 96) (e97 : h' 97 = h 97) (e98 : h' 98 = h 98) (e100 : h' 100 = h 100) (xv : (h' 90 22 = h 90 22 ∧ h' 103 = h 103) ∨ h' 90 22 = h 90 22 + 1) (e105 : h' 105 = h 105) (e106 : h' 106 = h 106) (f : h' 90 25 = h 90 25 ∧ h' 90 26 = h 90 26 ∧ h' 90 28 = h 90 28 ∧ h' 90 29 = h 90 29 ∧ h' 90 30 = h 90 30) (hv : v + 1 ≤ v') (hs : s ≤ s') : ov_LK v' s' z' h' := by
  obtain ⟨f2, f3, f4, f5, f6⟩ := f
  have q1 := K.2.2.2.2.2.2.2.2.1
  have q2 := K.2.2.2.2.2.2.2.2.2
  refine ov_LK_r K N' (by rw [e96]; exact K.2.2.2.2.1) (by rw [e96, e97, e98]; exact K.2.2.2.2.2.1) (by rw [e100]; exact K.2.2.2.2.2.2.1) ?_ (by omega) (by omega)
  unfold ov_PMh
  rw [e105, e106, f2, f3, f4, f5, f6]
  rcases xv with ⟨a, b⟩ | a
  · rw [e96, e97, e98, a, b]
    exact K.2.2.2.2.2.2.2.1
  · exact ov_PM_ver K.2.2.2.2.2.2.2.1 (by omega)
/-- .. a question that uses the memo -/
theorem ov_LK_rm {v s v' s' g : Int} {z z' : ov_Z} {h h' : ov_H} (K : ov_LK v s z h) (N' : ov_N (h, z) z' h') (e96 : h' 96 = h 96) (e97 : h' 97 = h 97) (e98 : h' 98 = h 98) (e100 : h' 100 = h 100) (e103 : h' 103 = h 103) (pm : ov_PM (h 96) (h 103) (h 97) (h 98) (h' 105) (h' 106) (h' 90 22) (h' 90 25) (h' 90 26) (h' 90 28) (h' 90 29) (h' 90 30)) (f : h' 90 22 = h 90 22 ∧ h 90 25 ≤ h' 90 25 ∧ h' 90 25 ≤ h 90 25 + g) (hv : v ≤ v') (hs : s + g ≤ s') : ov_LK v' s' z' h' := by
  obtain ⟨f1, f2, f3⟩ := f
  have q1 := K.2.2.2.2.2.2.2.2.1
  have q2 := K.2.2.2.2.2.2.2.2.2
  refine ov_LK_r K N' (by rw [e96]; exact K.2.2.2.2.1) (by rw [e96, e97, e98]; exact K.2.2.2.2.2.1) (by rw [e100]; exact K.2.2.2.2.2.2.1) ?_ (by omega) (by omega)
  unfold ov_PMh
  rw [e96, e97, e98, e103]
  exact pm
/-- .. a town -/
theorem ov_LK_rt {v s v' s' : Int} {z z' : ov_Z} {h h' : ov_H} (K : ov_LK v s z h) (N' : ov_N (h, z) z' h') (tx : (ov_MK (h 96) (h 97) (h 98) (h' 96) (h' 97) (h' 98) ∧ h' 100 = h 100 ∧ h' 103 = h 103 ∧ h' 90 22 = h 90 22) ∨ (ov_WT (h' 96) ∧ ov_CD (h' 96) (h' 97) (h' 98) ∧ h' 100 0 = 0 ∧ h' 90 22 = h 90 22 + 1)) (e105 : h' 105 = h 105) (e106 : h' 106 = h 106) (f : h' 90 25 = h 90 25 ∧ h' 90 26 = h 90 26 ∧ h' 90 28 = h 90 28 ∧ h' 90 29 = h 90 29 ∧ h' 90 30 = h 90 30) (hv : v + 1 ≤ v') (hs : s ≤ s') : ov_LK v' s' z' h' := by
  obtain ⟨f2, f3, f4, f5, f6⟩ := f
  have q1 := K.2.2.2.2.2.2.2.2.1
  have q2 := K.2.2.2.2.2.2.2.2.2
  rcases tx with ⟨mk, a, b, c⟩ | ⟨w, cd, a, c⟩
  · have m := ov_PM_con (f' := h' 96) (s' := h' 103) (g' := h' 97) (p' := h' 98) K.2.2.2.2.2.2.2.1 mk.1 (fun j _ _ => by rw [b]) mk.2.1 mk.2.2 K.2.2.2.2.2.1 (t96_8 K.2.1).2 (t96_0 K.2.1).2 (t96_1 K.2.1).2
    refine ov_LK_r K N' (ov_WT_con mk.1 K.2.2.2.2.1) (ov_CD_con mk.1 mk.2.1 mk.2.2 (t96_8 K.2.1).2 K.2.2.2.2.2.1) (by rw [a]; exact K.2.2.2.2.2.2.1) ?_ (by omega) (by omega)
    unfold ov_PMh
    rw [e105, e106, c, f2, f3, f4, f5, f6]
    exact m
  · refine ov_LK_r K N' w cd ?_ ?_ (by omega) (by omega)
    · unfold ov_WK
      rw [a]
      show (0 : Int) ≤ 5 ∧ (0 : Int) - 0 ≤ 8
      decide
    · unfold ov_PMh
      rw [e105, e106, f2, f3, f4, f5, f6]
      exact ov_PM_ver K.2.2.2.2.2.2.2.1 (by omega)
/-- .. a walk -/
theorem ov_LK_rw {v s v' s' : Int} {z z' : ov_Z} {h h' : ov_H} (K : ov_LK v s z h) (N' : ov_N (h, z) z' h') (e96 : h' 96 = h 96) (e97 : h' 97 = h 97) (e98 : h' 98 = h 98) (xw : ov_WK (h 100) → ov_WK (h' 100)) (e103 : h' 103 = h 103) (e105 : h' 105 = h 105) (e106 : h' 106 = h 106) (f : h' 90 22 = h 90 22 ∧ h' 90 25 = h 90 25 ∧ h' 90 26 = h 90 26 ∧ h' 90 28 = h 90 28 ∧ h' 90 29 = h 90 29 ∧ h' 90 30 = h 90 30) (hv : v ≤ v') (hs : s ≤ s') : ov_LK v' s' z' h' := by
  obtain ⟨f1, f2, f3, f4, f5, f6⟩ := f
  have q1 := K.2.2.2.2.2.2.2.2.1
  have q2 := K.2.2.2.2.2.2.2.2.2
  refine ov_LK_r K N' (by rw [e96]; exact K.2.2.2.2.1) (by rw [e96, e97, e98]; exact K.2.2.2.2.2.1) (xw K.2.2.2.2.2.2.1) ?_ (by omega) (by omega)
  unfold ov_PMh
  rw [e96, e97, e98, e103, e105, e106, f1, f2, f3, f4, f5, f6]
  exact K.2.2.2.2.2.2.2.1
theorem ov_HT_s {M : Nat} {h h1 hg h2 : ov_H} {z1 : ov_Z} (K : ov_HT h (h 96)) (I1 : ov_I (ov_FF M h) z1 h1) (hM : 301124362028858568867840 &&& M = 301124362028858568867840) (e : h1 0 10 = h 0 10) (aU : ∀ b : Int, 0 ≤ b → hg b = h1 b) (bL : ∀ b : Int, 0 ≤ b → b < 90 → h2 b = hg b) (e96 : h2 96 = hg 96) (a96 : hg 96 = h 96) : ov_HT h2 (h2 96) := by
  rw [e96, a96]
  exact ov_HT_rw (ov_HT_k K (fun b q => ov_FF_k I1 (Or.inr (by omega)) (ov_tbs (ov_tbT q) hM)) e) (fun b h0 q => (bL b h0 q).trans (aU b h0))
theorem st_R77 {h : ov_H} {B : Int} (S : st_R h) : st_R (ov_up h (-77) 0 B) := by
  refine st_same S (fun a a0 _ _ => ov_up77 (by omega)) (ov_up77 (by decide)) (fun m _ _ => ?_) ?_ ?_
  · rw [ov_up77 (by decide)]
  · rw [ov_up77 (by decide)]
  · rw [ov_up77 (by decide)]
theorem ov_FF_fT {M : Nat} {h : ov_H} {T : Int} (hT : T = 58 ∨ T = 70) (e : 301124362028858568867840 &&& M = 301124362028858568867840) : ov_fT T (ov_FF M h) := fun b h0 h1 => by
  rw [ov_FF_6, if_pos (ov_tbs (ov_tbT (by omega)) e)]
theorem ov_tw58_FF {M : Nat} {h : ov_H} : ov_tw58 (ov_FF M h) = ov_tw58 h := by
  show (ov_FF M h 58, ov_FF M h 59, ov_FF M h 60, ov_FF M h 61, ov_FF M h 62, ov_FF M h 64, ov_FF M h 65) = (h 58, h 59, h 60, h 61, h 62, h 64, h 65)
  rw [ov_FF_ge (by decide), ov_FF_ge (by decide), ov_FF_ge (by decide), ov_FF_ge (by decide), ov_FF_ge (by decide), ov_FF_ge (by decide), ov_FF_ge (by decide)]
theorem ov_tw70_FF {M : Nat} {h : ov_H} : ov_tw70 (ov_FF M h) = ov_tw70 h := by
  show (ov_FF M h 70, ov_FF M h 71, ov_FF M h 72, ov_FF M h 73, ov_FF M h 74, ov_FF M h 76, ov_FF M h 77) = (h 70, h 71, h 72, h 73, h 74, h 76, h 77)
  rw [ov_FF_ge (by decide), ov_FF_ge (by decide), ov_FF_ge (by decide), ov_FF_ge (by decide), ov_FF_ge (by decide), ov_FF_ge (by decide), ov_FF_ge (by decide)]
theorem ov_FIT_eq {M : Nat} {h : ov_H} {z : ov_Z} {r a b w : Int} (S : st_R h) (K : ov_HT h (h 96)) (W : ov_WT (h 96)) (I : ov_I (ov_FF M h) z h) (hW : h 0 10 = 58 ∧ h 0 11 = 70 ∧ 0 ≤ h 64 0 ∧ ov_FF M h (-5) 58 = 1 ∨ h 0 10 = 70 ∧ h 0 11 = 58 ∧ 0 ≤ h 76 0 ∧ ov_FF M h (-5) 70 = 1) (xc : (h 0 10 = 58 → r = ft_fc (ov_tw58 (ov_FF M h)) (h 7) (h 8) (h 4 5) w) ∧ (h 0 10 = 70 → r = ft_fc (ov_tw70 (ov_FF M h)) (h 7) (h 8) (h 4 5) w)) : r = ft_ff (h 96) (h 103) (h 103 59) a b w := by
  rcases hW with ⟨e0, -, w0, ff⟩ | ⟨e0, -, w0, ff⟩
  · rw [xc.1 e0, ov_tw58_FF]
    exact ft_fit_s (K.1 e0) W (ov_ok58 I w0 ff) S.1.2 (rg_4_5 I) a b w
  · rw [xc.2 e0, ov_tw70_FF]
    exact ft_fit_s (K.2 e0) W (ov_ok70 I w0 ff) S.1.2 (rg_4_5 I) a b w

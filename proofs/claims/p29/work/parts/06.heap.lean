/-! arrays -/
theorem ov_ix {i : Int} (h : 0 ≤ i ∧ i ≤ 2147483647) : (Int32.ofInt i).toNatClampNeg = i.toNat := by
  show (Int32.ofInt i).toInt.toNat = i.toNat
  rw [ov_toInt ⟨by omega, h.2⟩]
theorem ov_ixn {i : Int} {n : Nat} (h : 0 ≤ i ∧ i < n ∧ i ≤ 2147483647) : ¬ (Int32.ofInt i < 0 ∨ n ≤ (Int32.ofInt i).toNatClampNeg) := by
  rw [ov_ix ⟨h.1, h.2.2⟩]
  intro q
  rcases q with q | q
  · have := (ov_lt32 (a := i) (b := 0) ⟨by omega, h.2.2⟩ ov_g0).mp q
    omega
  · omega
theorem ov_isA {u : ov_U} (hu : ov_Ok u) {s : State} (hW : (ov_s0 u).WarmedH s.vm) {t : Nat} (ht : t < 5) (n : Nat) (f : Nat → Value) : s.isArrayOf (arrV (ov_AC u t) n f) (ov_at t) := arrOfT_moved hW.alike (hu.2.2.1 t ht).1 n f
theorem ov_iald {u : ov_U} {d : Nat} {M : ov_M} {pc : Nat} {ls : List (Nat × ov_V)} {st : List ov_V} {z : ov_Z} {h : ov_H} {Q : Option ov_V → ov_Z → ov_H → Prop} {a i : Int} {n : Nat} (hd : decode M.2.1 pc = .ok (.iaload, 1)) (h0 : 0 ≤ a ∧ a < z.1) (hz : z.2.2 a = (0, n)) (hi : 0 ≤ i ∧ i < n ∧ i ≤ 2147483647) (kk : ov_R u d M (pc + 1) ls (ov_i (h a i) :: st) z h Q) : ov_R u d M pc ls (ov_i i :: ov_r a :: st) z h Q := by
  intro hu p e s m args below meth c0 H locs cells slots lr n0 g0 C hRp hlocs hl
  have K := kk hu p e s m args below meth c0 H locs cells slots lr n0 g0 C hRp hlocs hl
  obtain ⟨hx, hb, hml, hret, hown, hlk, hnm, hW0, hn0, hg0⟩ := C
  have q1 := ov_arr hRp h0.1 h0.2 hz (by decide)
  have e1 : ((i.toNat : Nat) : Int) = i := Int.toNat_of_nonneg hi.1
  simp only [List.map_cons] at K ⊢
  rw [show ov_tv u (ov_r a) = .ref (ov_B u + a.toNat) from ov_rv_pos u h0.1]
  refine W.iald hx hb q1 (ov_isA hu hW0 (t := 0) (by decide) _ _) (fun q => by cases q) (by rw [arrV_size]; exact ov_ixn hi) ?_ rfl rfl hd K
  rw [ov_ix ⟨hi.1, hi.2.2⟩, arrV_read _ _ (by omega), e1]
  rfl
theorem ov_lald {u : ov_U} {d : Nat} {M : ov_M} {pc : Nat} {ls : List (Nat × ov_V)} {st : List ov_V} {z : ov_Z} {h : ov_H} {Q : Option ov_V → ov_Z → ov_H → Prop} {a i : Int} {n : Nat} (hd : decode M.2.1 pc = .ok (.laload, 1)) (h0 : 0 ≤ a ∧ a < z.1) (hz : z.2.2 a = (1, n)) (hi : 0 ≤ i ∧ i < n ∧ i ≤ 2147483647) (kk : ov_R u d M (pc + 1) ls (ov_l (h a i) :: st) z h Q) : ov_R u d M pc ls (ov_i i :: ov_r a :: st) z h Q := by
  intro hu p e s m args below meth c0 H locs cells slots lr n0 g0 C hRp hlocs hl
  have K := kk hu p e s m args below meth c0 H locs cells slots lr n0 g0 C hRp hlocs hl
  obtain ⟨hx, hb, hml, hret, hown, hlk, hnm, hW0, hn0, hg0⟩ := C
  have q1 := ov_arr hRp h0.1 h0.2 hz (by decide)
  have e1 : ((i.toNat : Nat) : Int) = i := Int.toNat_of_nonneg hi.1
  simp only [List.map_cons] at K ⊢
  rw [show ov_tv u (ov_r a) = .ref (ov_B u + a.toNat) from ov_rv_pos u h0.1]
  refine W.lald hx hb q1 (ov_isA hu hW0 (t := 1) (by decide) _ _) (fun q => by cases q) (by rw [arrV_size]; exact ov_ixn hi) ?_ rfl rfl hd K
  rw [ov_ix ⟨hi.1, hi.2.2⟩, arrV_read _ _ (by omega), e1]
  rfl
theorem ov_cald {u : ov_U} {d : Nat} {M : ov_M} {pc : Nat} {ls : List (Nat × ov_V)} {st : List ov_V} {z : ov_Z} {h : ov_H} {Q : Option ov_V → ov_Z → ov_H → Prop} {a i : Int} {n : Nat} (hd : decode M.2.1 pc = .ok (.caload, 1)) (h0 : 0 ≤ a ∧ a < z.1) (hz : z.2.2 a = (2, n)) (hi : 0 ≤ i ∧ i < n ∧ i ≤ 2147483647) (kk : ov_R u d M (pc + 1) ls (ov_i (h a i) :: st) z h Q) : ov_R u d M pc ls (ov_i i :: ov_r a :: st) z h Q := by
  intro hu p e s m args below meth c0 H locs cells slots lr n0 g0 C hRp hlocs hl
  have K := kk hu p e s m args below meth c0 H locs cells slots lr n0 g0 C hRp hlocs hl
  obtain ⟨hx, hb, hml, hret, hown, hlk, hnm, hW0, hn0, hg0⟩ := C
  have q1 := ov_arr hRp h0.1 h0.2 hz (by decide)
  have e1 : ((i.toNat : Nat) : Int) = i := Int.toNat_of_nonneg hi.1
  simp only [List.map_cons] at K ⊢
  rw [show ov_tv u (ov_r a) = .ref (ov_B u + a.toNat) from ov_rv_pos u h0.1]
  refine W.cald hx hb q1 (ov_isA hu hW0 (t := 2) (by decide) _ _) (fun q => by cases q) (by rw [arrV_size]; exact ov_ixn hi) ?_ rfl rfl hd K
  rw [ov_ix ⟨hi.1, hi.2.2⟩, arrV_read _ _ (by omega), e1]
  rfl
theorem ov_zald {u : ov_U} {d : Nat} {M : ov_M} {pc : Nat} {ls : List (Nat × ov_V)} {st : List ov_V} {z : ov_Z} {h : ov_H} {Q : Option ov_V → ov_Z → ov_H → Prop} {a i : Int} {n : Nat} (hd : decode M.2.1 pc = .ok (.baload, 1)) (h0 : 0 ≤ a ∧ a < z.1) (hz : z.2.2 a = (3, n)) (hi : 0 ≤ i ∧ i < n ∧ i ≤ 2147483647) (kk : ov_R u d M (pc + 1) ls (ov_i (h a i) :: st) z h Q) : ov_R u d M pc ls (ov_i i :: ov_r a :: st) z h Q := by
  intro hu p e s m args below meth c0 H locs cells slots lr n0 g0 C hRp hlocs hl
  have K := kk hu p e s m args below meth c0 H locs cells slots lr n0 g0 C hRp hlocs hl
  obtain ⟨hx, hb, hml, hret, hown, hlk, hnm, hW0, hn0, hg0⟩ := C
  have q1 := ov_arr hRp h0.1 h0.2 hz (by decide)
  have e1 : ((i.toNat : Nat) : Int) = i := Int.toNat_of_nonneg hi.1
  simp only [List.map_cons] at K ⊢
  rw [show ov_tv u (ov_r a) = .ref (ov_B u + a.toNat) from ov_rv_pos u h0.1]
  refine W.zald hx hb q1 (ov_isA hu hW0 (t := 3) (by decide) _ _) (fun q => by cases q) (by rw [arrV_size]; exact ov_ixn hi) ?_ rfl rfl hd K
  rw [ov_ix ⟨hi.1, hi.2.2⟩, arrV_read _ _ (by omega), e1]
  rfl
theorem ov_aald {u : ov_U} {d : Nat} {M : ov_M} {pc : Nat} {ls : List (Nat × ov_V)} {st : List ov_V} {z : ov_Z} {h : ov_H} {Q : Option ov_V → ov_Z → ov_H → Prop} {a i : Int} {n : Nat} (hd : decode M.2.1 pc = .ok (.aaload, 1)) (h0 : 0 ≤ a ∧ a < z.1) (hz : z.2.2 a = (4, n)) (hi : 0 ≤ i ∧ i < n ∧ i ≤ 2147483647) (kk : ov_R u d M (pc + 1) ls (ov_r (h a i) :: st) z h Q) : ov_R u d M pc ls (ov_i i :: ov_r a :: st) z h Q := by
  intro hu p e s m args below meth c0 H locs cells slots lr n0 g0 C hRp hlocs hl
  have K := kk hu p e s m args below meth c0 H locs cells slots lr n0 g0 C hRp hlocs hl
  obtain ⟨hx, hb, hml, hret, hown, hlk, hnm, hW0, hn0, hg0⟩ := C
  have q1 := ov_arr hRp h0.1 h0.2 hz (by decide)
  have e1 : ((i.toNat : Nat) : Int) = i := Int.toNat_of_nonneg hi.1
  simp only [List.map_cons] at K ⊢
  rw [show ov_tv u (ov_r a) = .ref (ov_B u + a.toNat) from ov_rv_pos u h0.1]
  refine W.aald hx hb q1 (ov_isA hu hW0 (t := 4) (by decide) _ _) rfl (fun q => by cases q) (by rw [arrV_size]; exact ov_ixn hi) ?_ rfl rfl hd K
  rw [ov_ix ⟨hi.1, hi.2.2⟩, arrV_read _ _ (by omega), e1]
  rfl
theorem ov_iast {u : ov_U} {d : Nat} {M : ov_M} {pc : Nat} {ls : List (Nat × ov_V)} {st : List ov_V} {z : ov_Z} {h : ov_H} {Q : Option ov_V → ov_Z → ov_H → Prop} {a i x : Int} {n : Nat} (hd : decode M.2.1 pc = .ok (.iastore, 1)) (h0 : 0 ≤ a ∧ a < z.1) (hz : z.2.2 a = (0, n)) (hi : 0 ≤ i ∧ i < n ∧ i ≤ 2147483647) (kk : ov_R u d M (pc + 1) ls st z (ov_up h a i x) Q) : ov_R u d M pc ls (ov_i x :: ov_i i :: ov_r a :: st) z h Q := by
  intro hu p e s m args below meth c0 H locs cells slots lr n0 g0 C hRp hlocs hl
  have K := fun (H1 : Heap) (locs1 : List Loc) hR1 hl1 => kk hu p e s m args below meth c0 H1 locs1 cells slots lr n0 g0 C hR1 hl1 hl
  obtain ⟨hx, hb, hml, hret, hown, hlk, hnm, hW0, hn0, hg0⟩ := C
  have q1 := ov_arr hRp h0.1 h0.2 hz (by decide)
  simp only [List.map_cons] at K ⊢
  rw [show ov_tv u (ov_r a) = .ref (ov_B u + a.toNat) from ov_rv_pos u h0.1]
  refine W.iast hx hb q1 (ov_isA hu hW0 (t := 0) (by decide) _ _) (fun q => by cases q) (by rw [arrV_size]; exact ov_ixn hi) rfl rfl hd fun H' e1 e2 e3 => ?_
  refine K H' _ (ov_Rp_put hRp h0.1 h0.2 e2 (ov_sum_put e2 q1 e1 e3) e3 ?_) (fun q hq => ?_)
  · unfold ov_co
    rw [hz, if_pos (by show 0 < 5; decide), e1, arrV_store]
    congr 2
    funext j
    rw [ov_ix ⟨hi.1, hi.2.2⟩]
    by_cases hj : j = i.toNat
    · have e4 : (j : Int) = i := by omega
      rw [e4]
      show (if j = i.toNat then _ else _) = ov_el u _ (if a = a ∧ i = i then x else _)
      rw [if_pos hj, if_pos ⟨rfl, rfl⟩]
      rfl
    · have : ¬ (j : Int) = i := by omega
      simp [updV, ov_up, hj, this]
  · rcases List.mem_append.mp hq with hq | hq
    · exact hlocs q hq
    · rw [List.mem_singleton.mp hq]
      exact Nat.le_add_right _ _
theorem ov_last {u : ov_U} {d : Nat} {M : ov_M} {pc : Nat} {ls : List (Nat × ov_V)} {st : List ov_V} {z : ov_Z} {h : ov_H} {Q : Option ov_V → ov_Z → ov_H → Prop} {a i x : Int} {n : Nat} (hd : decode M.2.1 pc = .ok (.lastore, 1)) (h0 : 0 ≤ a ∧ a < z.1) (hz : z.2.2 a = (1, n)) (hi : 0 ≤ i ∧ i < n ∧ i ≤ 2147483647) (kk : ov_R u d M (pc + 1) ls st z (ov_up h a i x) Q) : ov_R u d M pc ls (ov_l x :: ov_i i :: ov_r a :: st) z h Q := by
  intro hu p e s m args below meth c0 H locs cells slots lr n0 g0 C hRp hlocs hl
  have K := fun (H1 : Heap) (locs1 : List Loc) hR1 hl1 => kk hu p e s m args below meth c0 H1 locs1 cells slots lr n0 g0 C hR1 hl1 hl
  obtain ⟨hx, hb, hml, hret, hown, hlk, hnm, hW0, hn0, hg0⟩ := C
  have q1 := ov_arr hRp h0.1 h0.2 hz (by decide)
  simp only [List.map_cons] at K ⊢
  rw [show ov_tv u (ov_r a) = .ref (ov_B u + a.toNat) from ov_rv_pos u h0.1]
  refine W.last hx hb q1 (ov_isA hu hW0 (t := 1) (by decide) _ _) (fun q => by cases q) (by rw [arrV_size]; exact ov_ixn hi) rfl rfl hd fun H' e1 e2 e3 => ?_
  refine K H' _ (ov_Rp_put hRp h0.1 h0.2 e2 (ov_sum_put e2 q1 e1 e3) e3 ?_) (fun q hq => ?_)
  · unfold ov_co
    rw [hz, if_pos (by show 1 < 5; decide), e1, arrV_store]
    congr 2
    funext j
    rw [ov_ix ⟨hi.1, hi.2.2⟩]
    by_cases hj : j = i.toNat
    · have e4 : (j : Int) = i := by omega
      rw [e4]
      show (if j = i.toNat then _ else _) = ov_el u _ (if a = a ∧ i = i then x else _)
      rw [if_pos hj, if_pos ⟨rfl, rfl⟩]
      rfl
    · have : ¬ (j : Int) = i := by omega
      simp [updV, ov_up, hj, this]
  · rcases List.mem_append.mp hq with hq | hq
    · exact hlocs q hq
    · rw [List.mem_singleton.mp hq]
      exact Nat.le_add_right _ _
theorem ov_cast {u : ov_U} {d : Nat} {M : ov_M} {pc : Nat} {ls : List (Nat × ov_V)} {st : List ov_V} {z : ov_Z} {h : ov_H} {Q : Option ov_V → ov_Z → ov_H → Prop} {a i x : Int} {n : Nat} (hd : decode M.2.1 pc = .ok (.castore, 1)) (h0 : 0 ≤ a ∧ a < z.1) (hz : z.2.2 a = (2, n)) (hi : 0 ≤ i ∧ i < n ∧ i ≤ 2147483647) (hv : 0 ≤ x ∧ x ≤ 65535) (kk : ov_R u d M (pc + 1) ls st z (ov_up h a i x) Q) : ov_R u d M pc ls (ov_i x :: ov_i i :: ov_r a :: st) z h Q := by
  intro hu p e s m args below meth c0 H locs cells slots lr n0 g0 C hRp hlocs hl
  have K := fun (H1 : Heap) (locs1 : List Loc) hR1 hl1 => kk hu p e s m args below meth c0 H1 locs1 cells slots lr n0 g0 C hR1 hl1 hl
  obtain ⟨hx, hb, hml, hret, hown, hlk, hnm, hW0, hn0, hg0⟩ := C
  have q1 := ov_arr hRp h0.1 h0.2 hz (by decide)
  simp only [List.map_cons] at K ⊢
  rw [show ov_tv u (ov_r a) = .ref (ov_B u + a.toNat) from ov_rv_pos u h0.1]
  refine W.cast hx hb q1 (ov_isA hu hW0 (t := 2) (by decide) _ _) (fun q => by cases q) (by rw [arrV_size]; exact ov_ixn hi) rfl rfl hd fun H' e1 e2 e3 => ?_
  refine K H' _ (ov_Rp_put hRp h0.1 h0.2 e2 (ov_sum_put e2 q1 e1 e3) e3 ?_) (fun q hq => ?_)
  · unfold ov_co
    rw [hz, if_pos (by show 2 < 5; decide), e1, arrV_store]
    rw [(ov_charok hv).1]
    congr 2
    funext j
    rw [ov_ix ⟨hi.1, hi.2.2⟩]
    by_cases hj : j = i.toNat
    · have e4 : (j : Int) = i := by omega
      rw [e4]
      show (if j = i.toNat then _ else _) = ov_el u _ (if a = a ∧ i = i then x else _)
      rw [if_pos hj, if_pos ⟨rfl, rfl⟩]
      rfl
    · have : ¬ (j : Int) = i := by omega
      simp [updV, ov_up, hj, this]
  · rcases List.mem_append.mp hq with hq | hq
    · exact hlocs q hq
    · rw [List.mem_singleton.mp hq]
      exact Nat.le_add_right _ _
theorem ov_zast {u : ov_U} {d : Nat} {M : ov_M} {pc : Nat} {ls : List (Nat × ov_V)} {st : List ov_V} {z : ov_Z} {h : ov_H} {Q : Option ov_V → ov_Z → ov_H → Prop} {a i x : Int} {n : Nat} (hd : decode M.2.1 pc = .ok (.bastore, 1)) (h0 : 0 ≤ a ∧ a < z.1) (hz : z.2.2 a = (3, n)) (hi : 0 ≤ i ∧ i < n ∧ i ≤ 2147483647) (hv : x = 0 ∨ x = 1) (kk : ov_R u d M (pc + 1) ls st z (ov_up h a i x) Q) : ov_R u d M pc ls (ov_i x :: ov_i i :: ov_r a :: st) z h Q := by
  intro hu p e s m args below meth c0 H locs cells slots lr n0 g0 C hRp hlocs hl
  have K := fun (H1 : Heap) (locs1 : List Loc) hR1 hl1 => kk hu p e s m args below meth c0 H1 locs1 cells slots lr n0 g0 C hR1 hl1 hl
  obtain ⟨hx, hb, hml, hret, hown, hlk, hnm, hW0, hn0, hg0⟩ := C
  have q1 := ov_arr hRp h0.1 h0.2 hz (by decide)
  simp only [List.map_cons] at K ⊢
  rw [show ov_tv u (ov_r a) = .ref (ov_B u + a.toNat) from ov_rv_pos u h0.1]
  refine W.zast hx hb q1 (ov_isA hu hW0 (t := 3) (by decide) _ _) (fun q => by cases q) (by rw [arrV_size]; exact ov_ixn hi) rfl rfl hd fun H' e1 e2 e3 => ?_
  refine K H' _ (ov_Rp_put hRp h0.1 h0.2 e2 (ov_sum_put e2 q1 e1 e3) e3 ?_) (fun q hq => ?_)
  · unfold ov_co
    rw [hz, if_pos (by show 3 < 5; decide), e1, arrV_store]
    rw [(by rcases hv with rfl | rfl <;> rfl : narrow .boolean (.int (Int32.ofInt x)) = .int (Int32.ofInt x))]
    congr 2
    funext j
    rw [ov_ix ⟨hi.1, hi.2.2⟩]
    by_cases hj : j = i.toNat
    · have e4 : (j : Int) = i := by omega
      rw [e4]
      show (if j = i.toNat then _ else _) = ov_el u _ (if a = a ∧ i = i then x else _)
      rw [if_pos hj, if_pos ⟨rfl, rfl⟩]
      rfl
    · have : ¬ (j : Int) = i := by omega
      simp [updV, ov_up, hj, this]
  · rcases List.mem_append.mp hq with hq | hq
    · exact hlocs q hq
    · rw [List.mem_singleton.mp hq]
      exact Nat.le_add_right _ _
theorem ov_alen {u : ov_U} {d : Nat} {M : ov_M} {pc : Nat} {ls : List (Nat × ov_V)} {st : List ov_V} {z : ov_Z} {h : ov_H} {Q : Option ov_V → ov_Z → ov_H → Prop} {a : Int} {t n : Nat} (hd : decode M.2.1 pc = .ok (.arraylength, 1)) (h0 : 0 ≤ a ∧ a < z.1) (hz : z.2.2 a = (t, n)) (ht : t < 5) (kk : ov_R u d M (pc + 1) ls (ov_i (n : Int) :: st) z h Q) : ov_R u d M pc ls (ov_r a :: st) z h Q := by
  intro hu p e s m args below meth c0 H locs cells slots lr n0 g0 C hRp hlocs hl
  have K := kk hu p e s m args below meth c0 H locs cells slots lr n0 g0 C hRp hlocs hl
  obtain ⟨hx, hb, hml, hret, hown, hlk, hnm, hW0, hn0, hg0⟩ := C
  have q1 := ov_arr hRp h0.1 h0.2 hz ht
  simp only [List.map_cons] at K ⊢
  rw [show ov_tv u (ov_r a) = .ref (ov_B u + a.toNat) from ov_rv_pos u h0.1]
  refine W.alen (n := Int32.ofInt (n : Int)) hx hb q1 (ov_isA hu hW0 ht _ _) ?_ rfl rfl hd K
  rw [arrV_size, Int32.ofInt_eq_ofNat]
/-! what is made -/
def ov_nw (h : ov_H) (a : Int) (row : Int → Int) : ov_H := fun b => if b = a then row else h b
def ov_zn (z : ov_Z) (s : Nat × Nat) : ov_Z := (z.1 + 1, z.2.1 + s.2, fun b => if b = (z.1 : Int) then s else z.2.2 b)
theorem ov_Rp_new {u : ov_U} {z : ov_Z} {h : ov_H} {H H1 : Heap} (hR : ov_Rp u z h H) {s : Nat × Nat} {row : Int → Int} {cell : Cell} (hk : z.1 + 1 ≤ ov_K u) (hS : z.2.1 + s.2 ≤ ov_S u) (hs : H1.size = H.size + 1) (hc : H1[H.size]? = some cell) (hn : cell.slots.size = s.2) (o : ∀ q : Nat, q < H.size → H1[q]? = H[q]?) (hco : ov_co u s row H.size H1) : ov_Rp u (ov_zn z s) (ov_nw h (z.1 : Int) row) H1 := by
  have r1 := hR.1
  refine ⟨by rw [hs, r1]; rfl, ?_, hk, hS, fun q hq => ?_, fun b hb => ?_⟩
  · rw [ov_sum_new hs hc o, hR.2.1, hn]
    show _ = _ + (z.2.1 + s.2)
    omega
  · rw [o q (by omega)]
    exact hR.2.2.2.2.1 q hq
  · have hb : b < z.1 + 1 := hb
    by_cases hbz : b = z.1
    · subst hbz
      simp only [ov_zn, ov_nw, if_true]
      rw [← r1]
      exact hco
    · have e : ¬ (b : Int) = (z.1 : Int) := by omega
      simp only [ov_zn, ov_nw, if_neg e]
      exact ov_co_kept (hR.2.2.2.2.2 b (by omega)) (o _ (by omega))
def ov_df (c : Nat) (j : Int) : Int := if ov_ft c j.toNat = 2 then -1 else 0
def ov_nl (own : String) (idx c : Nat) : Prop := c < 13 ∧ Cond.classLink own idx (ov_cs c).1 ∈ lw_tbl ∧ Cond.instantiable (ov_cs c).1 (ov_nf c) ∈ lw_tbl ∧ Cond.initialized (ov_cs c).1 ∈ lw_tbl
theorem ov_dfv (u : ov_U) {ty : FieldType} {t : Nat} (ht : ov_tyok ty t = true) : defaultValue ty = ov_fv u t (if t = 2 then -1 else 0) := by
  unfold ov_tyok at ht
  split at ht
  · rfl
  · rfl
  · rfl
  · rfl
  · rfl
  · rfl
  · cases ht
theorem ov_new {u : ov_U} {d : Nat} {M : ov_M} {pc : Nat} {ls : List (Nat × ov_V)} {st : List ov_V} {z : ov_Z} {h : ov_H} {Q : Option ov_V → ov_Z → ov_H → Prop} {idx c : Nat} (hd : decode M.2.1 pc = .ok (.new idx, 3)) (nl : ov_nl M.1.cls idx c) (hk : z.1 + 1 ≤ ov_K u) (hS : z.2.1 + ov_nf c ≤ ov_S u) (kk : ov_R u d M (pc + 3) ls (ov_r (z.1 : Int) :: st) (ov_zn z (5 + c, ov_nf c)) (ov_nw h (z.1 : Int) (ov_df c)) Q) : ov_R u d M pc ls st z h Q := by
  intro hu p e s m args below meth c0 H locs cells slots lr n0 g0 C hRp hlocs hl
  have K := fun (H1 : Heap) (ce sl : Nat) hR1 => kk hu p e s m args below meth c0 H1 locs ce sl lr n0 g0 C hR1 hlocs hl
  obtain ⟨hx, hb, hml, hret, hown, hlk, hnm, hW0, hn0, hg0⟩ := C
  obtain ⟨hc, w1, w2, w3⟩ := nl
  have r1 := hRp.1
  have r2 := hRp.2.1
  obtain ⟨hKs, hfc, kC0, hkC0, hkind⟩ := (ov_kn hu hW0).1 c _ (ov_clat c hc)
  refine ov_ti (fun t1 t2 => ?_)
  refine W.newc hx hb hown (ov_word hu hW0 w1 rfl args) (ov_word hu hW0 w2 rfl args) (ov_word hu hW0 w3 rfl args) rfl hd (by show _ ≤ ov_K u - n0; omega) (by show _ ≤ ov_S u - g0; omega) fun cC kC h1 h2 h3 h4 => ?_
  have ec := Option.some.inj (hfc.symm.trans h1)
  subst ec
  have hnew : (H.push (blank ((ov_D u).1 c) kC))[H.size]? = some (blank ((ov_D u).1 c) kC) := by simp
  have hR1 := ov_Rp_new hRp (s := (5 + c, ov_nf c)) (row := ov_df c) (H1 := H.push (blank ((ov_D u).1 c) kC)) hk hS (by simp) hnew (by show (kC.instanceTypes.map defaultValue).size = _; rw [Array.size_map]; exact h4) (fun q hq => by rw [Array.getElem?_push, if_neg (Nat.ne_of_lt hq)]) (by
    unfold ov_co
    rw [if_neg (by show ¬ 5 + c < 5; omega)]
    refine ⟨by show 5 + c < 18; omega, ?_⟩
    simp only [Nat.add_sub_cancel_left]
    have hb9 := u_born (ov_yy c) (ov_lays hu hW0 args hc) (fun _ w => w) ⟨hKs, hfc, kC0, hkC0, hkind⟩ h2 hnew (ov_kall c hc)
    rw [ov_cN c hc] at hb9
    refine hb9.to fun k hk => ?_
    rw [ov_dfv u (ov_tyall c hc k hk)]
    simp [ov_df])
  have K1 := K _ (H.size - s.heap.size + 1) (ov_sum H - ov_sum s.heap + ov_nf c) hR1
  simp only [List.map_cons] at K1
  rw [show ov_tv u (ov_r (z.1 : Int)) = .ref H.size from by rw [r1]; exact ov_rv_pos u (by omega)] at K1
  exact K1
theorem ov_newi {u : ov_U} {d : Nat} {M : ov_M} {pc : Nat} {ls : List (Nat × ov_V)} {st : List ov_V} {z : ov_Z} {h : ov_H} {Q : Option ov_V → ov_Z → ov_H → Prop} {n : Int} (hd : decode M.2.1 pc = .ok (.newarray .int, 2)) (hw : Cond.arrayClass .int ∈ lw_tbl) (hn : 0 ≤ n ∧ n ≤ 60000000) (hk : z.1 + 1 ≤ ov_K u) (hS : z.2.1 + n.toNat ≤ ov_S u) (kk : ov_R u d M (pc + 2) ls (ov_r (z.1 : Int) :: st) (ov_zn z (0, n.toNat)) (ov_nw h (z.1 : Int) (fun _ => 0)) Q) : ov_R u d M pc ls (ov_i n :: st) z h Q := by
  intro hu p e s m args below meth c0 H locs cells slots lr n0 g0 C hRp hlocs hl
  have K := fun (H1 : Heap) (ce sl : Nat) hR1 => kk hu p e s m args below meth c0 H1 locs ce sl lr n0 g0 C hR1 hlocs hl
  obtain ⟨hx, hb, hml, hret, hown, hlk, hnm, hW0, hn0, hg0⟩ := C
  have r1 := hRp.1
  have r2 := hRp.2.1
  have hnn : (Int32.ofInt n).toNatClampNeg = n.toNat := ov_ix ⟨hn.1, by omega⟩
  refine ov_ti (fun t1 t2 => ?_)
  refine W.newa (atype := .int) hx hb (ov_word hu hW0 hw rfl args) rfl hd rfl (fun q => by have := (ov_lt32 (a := n) (b := 0) ⟨by omega, by omega⟩ ov_g0).mp q; omega) (by rw [hnn]; exact Nat.le_trans (Nat.mul_le_mul_right 4 (show n.toNat ≤ 60000000 by omega)) (Nat.le_of_ble_eq_true rfl)) (by show _ ≤ ov_K u - n0; omega) (by rw [hnn]; show _ ≤ ov_S u - g0; omega) fun cA kA comp h1 h2 h3 => ?_
  have hra : s.vm.findClass ("[" ++ (FieldType.int).toString) = some (ov_AC u 0) := (hu.2.2.1 0 (by decide)).2.moved hW0.alike
  have ec := Option.some.inj (hra.symm.trans h1)
  subst ec
  rw [hnn]
  have enew : ({ cls := ov_AC u 0, slots := Array.replicate n.toNat (defaultValue (newarray.typeOf .int)), vm := .none } : Cell) = arrV (ov_AC u 0) n.toNat (fun _ => defaultValue (.int)) := (arrV_new ..)
  rw [enew]
  have hR1 := ov_Rp_new hRp (s := (0, n.toNat)) (row := fun _ => 0) (cell := arrV (ov_AC u 0) n.toNat (fun _ => defaultValue (.int))) (H1 := H.push (arrV (ov_AC u 0) n.toNat (fun _ => defaultValue (.int)))) hk hS (by simp) (by simp) (arrV_size _ _ _) (fun q hq => by rw [Array.getElem?_push, if_neg (Nat.ne_of_lt hq)]) (by
    unfold ov_co
    rw [if_pos (by show 0 < 5; decide)]
    simp
    rfl)
  have K1 := K _ (H.size - s.heap.size + 1) (ov_sum H - ov_sum s.heap + n.toNat) hR1
  simp only [List.map_cons] at K1
  rw [show ov_tv u (ov_r (z.1 : Int)) = .ref H.size from by rw [r1]; exact ov_rv_pos u (by omega)] at K1
  exact K1
theorem ov_newl {u : ov_U} {d : Nat} {M : ov_M} {pc : Nat} {ls : List (Nat × ov_V)} {st : List ov_V} {z : ov_Z} {h : ov_H} {Q : Option ov_V → ov_Z → ov_H → Prop} {n : Int} (hd : decode M.2.1 pc = .ok (.newarray .long, 2)) (hw : Cond.arrayClass .long ∈ lw_tbl) (hn : 0 ≤ n ∧ n ≤ 60000000) (hk : z.1 + 1 ≤ ov_K u) (hS : z.2.1 + n.toNat ≤ ov_S u) (kk : ov_R u d M (pc + 2) ls (ov_r (z.1 : Int) :: st) (ov_zn z (1, n.toNat)) (ov_nw h (z.1 : Int) (fun _ => 0)) Q) : ov_R u d M pc ls (ov_i n :: st) z h Q := by
  intro hu p e s m args below meth c0 H locs cells slots lr n0 g0 C hRp hlocs hl
  have K := fun (H1 : Heap) (ce sl : Nat) hR1 => kk hu p e s m args below meth c0 H1 locs ce sl lr n0 g0 C hR1 hlocs hl
  obtain ⟨hx, hb, hml, hret, hown, hlk, hnm, hW0, hn0, hg0⟩ := C
  have r1 := hRp.1
  have r2 := hRp.2.1
  have hnn : (Int32.ofInt n).toNatClampNeg = n.toNat := ov_ix ⟨hn.1, by omega⟩
  refine ov_ti (fun t1 t2 => ?_)
  refine W.newa (atype := .long) hx hb (ov_word hu hW0 hw rfl args) rfl hd rfl (fun q => by have := (ov_lt32 (a := n) (b := 0) ⟨by omega, by omega⟩ ov_g0).mp q; omega) (by rw [hnn]; exact Nat.le_trans (Nat.mul_le_mul_right 8 (show n.toNat ≤ 60000000 by omega)) (Nat.le_of_ble_eq_true rfl)) (by show _ ≤ ov_K u - n0; omega) (by rw [hnn]; show _ ≤ ov_S u - g0; omega) fun cA kA comp h1 h2 h3 => ?_
  have hra : s.vm.findClass ("[" ++ (FieldType.long).toString) = some (ov_AC u 1) := (hu.2.2.1 1 (by decide)).2.moved hW0.alike
  have ec := Option.some.inj (hra.symm.trans h1)
  subst ec
  rw [hnn]
  have enew : ({ cls := ov_AC u 1, slots := Array.replicate n.toNat (defaultValue (newarray.typeOf .long)), vm := .none } : Cell) = arrV (ov_AC u 1) n.toNat (fun _ => defaultValue (.long)) := (arrV_new ..)
  rw [enew]
  have hR1 := ov_Rp_new hRp (s := (1, n.toNat)) (row := fun _ => 0) (cell := arrV (ov_AC u 1) n.toNat (fun _ => defaultValue (.long))) (H1 := H.push (arrV (ov_AC u 1) n.toNat (fun _ => defaultValue (.long)))) hk hS (by simp) (by simp) (arrV_size _ _ _) (fun q hq => by rw [Array.getElem?_push, if_neg (Nat.ne_of_lt hq)]) (by
    unfold ov_co
    rw [if_pos (by show 1 < 5; decide)]
    simp
    rfl)
  have K1 := K _ (H.size - s.heap.size + 1) (ov_sum H - ov_sum s.heap + n.toNat) hR1
  simp only [List.map_cons] at K1
  rw [show ov_tv u (ov_r (z.1 : Int)) = .ref H.size from by rw [r1]; exact ov_rv_pos u (by omega)] at K1
  exact K1
theorem ov_newc {u : ov_U} {d : Nat} {M : ov_M} {pc : Nat} {ls : List (Nat × ov_V)} {st : List ov_V} {z : ov_Z} {h : ov_H} {Q : Option ov_V → ov_Z → ov_H → Prop} {n : Int} (hd : decode M.2.1 pc = .ok (.newarray .char, 2)) (hw : Cond.arrayClass .char ∈ lw_tbl) (hn : 0 ≤ n ∧ n ≤ 60000000) (hk : z.1 + 1 ≤ ov_K u) (hS : z.2.1 + n.toNat ≤ ov_S u) (kk : ov_R u d M (pc + 2) ls (ov_r (z.1 : Int) :: st) (ov_zn z (2, n.toNat)) (ov_nw h (z.1 : Int) (fun _ => 0)) Q) : ov_R u d M pc ls (ov_i n :: st) z h Q := by
  intro hu p e s m args below meth c0 H locs cells slots lr n0 g0 C hRp hlocs hl
  have K := fun (H1 : Heap) (ce sl : Nat) hR1 => kk hu p e s m args below meth c0 H1 locs ce sl lr n0 g0 C hR1 hlocs hl
  obtain ⟨hx, hb, hml, hret, hown, hlk, hnm, hW0, hn0, hg0⟩ := C
  have r1 := hRp.1
  have r2 := hRp.2.1
  have hnn : (Int32.ofInt n).toNatClampNeg = n.toNat := ov_ix ⟨hn.1, by omega⟩
  refine ov_ti (fun t1 t2 => ?_)
  refine W.newa (atype := .char) hx hb (ov_word hu hW0 hw rfl args) rfl hd rfl (fun q => by have := (ov_lt32 (a := n) (b := 0) ⟨by omega, by omega⟩ ov_g0).mp q; omega) (by rw [hnn]; exact Nat.le_trans (Nat.mul_le_mul_right 2 (show n.toNat ≤ 60000000 by omega)) (Nat.le_of_ble_eq_true rfl)) (by show _ ≤ ov_K u - n0; omega) (by rw [hnn]; show _ ≤ ov_S u - g0; omega) fun cA kA comp h1 h2 h3 => ?_
  have hra : s.vm.findClass ("[" ++ (FieldType.char).toString) = some (ov_AC u 2) := (hu.2.2.1 2 (by decide)).2.moved hW0.alike
  have ec := Option.some.inj (hra.symm.trans h1)
  subst ec
  rw [hnn]
  have enew : ({ cls := ov_AC u 2, slots := Array.replicate n.toNat (defaultValue (newarray.typeOf .char)), vm := .none } : Cell) = arrV (ov_AC u 2) n.toNat (fun _ => defaultValue (.char)) := (arrV_new ..)
  rw [enew]
  have hR1 := ov_Rp_new hRp (s := (2, n.toNat)) (row := fun _ => 0) (cell := arrV (ov_AC u 2) n.toNat (fun _ => defaultValue (.char))) (H1 := H.push (arrV (ov_AC u 2) n.toNat (fun _ => defaultValue (.char)))) hk hS (by simp) (by simp) (arrV_size _ _ _) (fun q hq => by rw [Array.getElem?_push, if_neg (Nat.ne_of_lt hq)]) (by
    unfold ov_co
    rw [if_pos (by show 2 < 5; decide)]
    simp
    rfl)
  have K1 := K _ (H.size - s.heap.size + 1) (ov_sum H - ov_sum s.heap + n.toNat) hR1
  simp only [List.map_cons] at K1
  rw [show ov_tv u (ov_r (z.1 : Int)) = .ref H.size from by rw [r1]; exact ov_rv_pos u (by omega)] at K1
  exact K1
theorem ov_newz {u : ov_U} {d : Nat} {M : ov_M} {pc : Nat} {ls : List (Nat × ov_V)} {st : List ov_V} {z : ov_Z} {h : ov_H} {Q : Option ov_V → ov_Z → ov_H → Prop} {n : Int} (hd : decode M.2.1 pc = .ok (.newarray .boolean, 2)) (hw : Cond.arrayClass .boolean ∈ lw_tbl) (hn : 0 ≤ n ∧ n ≤ 60000000) (hk : z.1 + 1 ≤ ov_K u) (hS : z.2.1 + n.toNat ≤ ov_S u) (kk : ov_R u d M (pc + 2) ls (ov_r (z.1 : Int) :: st) (ov_zn z (3, n.toNat)) (ov_nw h (z.1 : Int) (fun _ => 0)) Q) : ov_R u d M pc ls (ov_i n :: st) z h Q := by
  intro hu p e s m args below meth c0 H locs cells slots lr n0 g0 C hRp hlocs hl
  have K := fun (H1 : Heap) (ce sl : Nat) hR1 => kk hu p e s m args below meth c0 H1 locs ce sl lr n0 g0 C hR1 hlocs hl
  obtain ⟨hx, hb, hml, hret, hown, hlk, hnm, hW0, hn0, hg0⟩ := C
  have r1 := hRp.1
  have r2 := hRp.2.1
  have hnn : (Int32.ofInt n).toNatClampNeg = n.toNat := ov_ix ⟨hn.1, by omega⟩
  refine ov_ti (fun t1 t2 => ?_)
  refine W.newa (atype := .boolean) hx hb (ov_word hu hW0 hw rfl args) rfl hd rfl (fun q => by have := (ov_lt32 (a := n) (b := 0) ⟨by omega, by omega⟩ ov_g0).mp q; omega) (by rw [hnn]; exact Nat.le_trans (Nat.mul_le_mul_right 1 (show n.toNat ≤ 60000000 by omega)) (Nat.le_of_ble_eq_true rfl)) (by show _ ≤ ov_K u - n0; omega) (by rw [hnn]; show _ ≤ ov_S u - g0; omega) fun cA kA comp h1 h2 h3 => ?_
  have hra : s.vm.findClass ("[" ++ (FieldType.boolean).toString) = some (ov_AC u 3) := (hu.2.2.1 3 (by decide)).2.moved hW0.alike
  have ec := Option.some.inj (hra.symm.trans h1)
  subst ec
  rw [hnn]
  have enew : ({ cls := ov_AC u 3, slots := Array.replicate n.toNat (defaultValue (newarray.typeOf .boolean)), vm := .none } : Cell) = arrV (ov_AC u 3) n.toNat (fun _ => defaultValue (.boolean)) := (arrV_new ..)
  rw [enew]
  have hR1 := ov_Rp_new hRp (s := (3, n.toNat)) (row := fun _ => 0) (cell := arrV (ov_AC u 3) n.toNat (fun _ => defaultValue (.boolean))) (H1 := H.push (arrV (ov_AC u 3) n.toNat (fun _ => defaultValue (.boolean)))) hk hS (by simp) (by simp) (arrV_size _ _ _) (fun q hq => by rw [Array.getElem?_push, if_neg (Nat.ne_of_lt hq)]) (by
    unfold ov_co
    rw [if_pos (by show 3 < 5; decide)]
    simp
    rfl)
  have K1 := K _ (H.size - s.heap.size + 1) (ov_sum H - ov_sum s.heap + n.toNat) hR1
  simp only [List.map_cons] at K1
  rw [show ov_tv u (ov_r (z.1 : Int)) = .ref H.size from by rw [r1]; exact ov_rv_pos u (by omega)] at K1
  exact K1
/-! calls -/
theorem ov_ctg (u : ov_U) : ∀ st : List ov_V, ((st.map (ov_tv u)).map fun v => v.category).sum = ov_wd st
  | [] => rfl
  | .inl a :: st => by
    have ih := ov_ctg u st
    simp only [List.map_cons, List.sum_cons]
    rw [ih]
    rfl
  | .inr (.inl a) :: st => by
    have ih := ov_ctg u st
    simp only [List.map_cons, List.sum_cons]
    rw [ih]
    rfl
  | .inr (.inr a) :: st => by
    have ih := ov_ctg u st
    simp only [List.map_cons, List.sum_cons]
    rw [ih, show (ov_tv u (.inr (.inr a))).category = 1 from ov_rv_cat u a]
    rfl
theorem ov_blind (u : ov_U) (as : List ov_V) (z : ov_Z) (h : ov_H) : FrameBlind (ov_Pc u as z h) := fun _ _ _ _ q => q
/-- behind a call -/
theorem ov_aft {u : ov_U} {d : Nat} {M : ov_M} {pc : Nat} {ls : List (Nat × ov_V)} {st : List ov_V} {Q : Option ov_V → ov_Z → ov_H → Prop} {Q1 : Option ov_V → ov_Z → ov_H → Prop} (hu : ov_Ok u) {p : Program} {e : Env} {s : State} {m : MethodId} {args : Array Value} {below : List Frame} {meth : Method} {c : Code} {H : Heap} {locs : List Loc} {cells slots mc ms : Nat} {lr : Array Slot} {n0 g0 : Nat} {a : Array Value} {st0 : List Value}
    (C : ov_Cx u M n0 g0 p s m meth c) (hlocs : ∀ q ∈ locs, ov_B u ≤ q.base) (hl : lv_has lr M.2.2.1 (ov_lm u ls))
    (hr : va_Run p u.1 e (ov_rm u d n0 g0) s m args below meth c H locs cells slots mc ms (F0 m pc lr st0) (st.map (ov_tv u)) (ov_Qc u Q1 a) (fun q => ov_B u ≤ q))
    (kk : ∀ (r : Option ov_V) (z' : ov_Z) (h' : ov_H), Q1 r z' h' → ov_R u d M (pc + 3) ls (r.toList ++ st) z' h' Q) :
    W p u.1 e (ov_rm u d n0 g0) s m args below meth c H locs cells slots (MQ below (ov_Qc u Q) args s (ov_K u - n0) (ov_S u - g0) (fun q => ov_B u ≤ q)) (F0 m pc lr st0) := by
  intro T hT X
  obtain ⟨v, st₀, t, T', L, h0, X', hL, e1, e2, ⟨r, z', h', hv, hq, hR, hW⟩, st1⟩ := hr T hT X
  have hv : v = r.map (ov_tv u) := by
    injection hv
  obtain ⟨t2, a1, b1⟩ := kk r z' h' hq hu p e s m args below meth c T'.heap (locs ++ L) (cells + mc) (slots + ms) lr n0 g0 C (by rw [e1]; exact hR) (fun q hq => by
    rcases List.mem_append.mp hq with h | h
    · exact hlocs q h
    · exact hL q h) hl T' rfl X'
  refine ⟨t2, st1 t2 ?_, b1⟩
  have e3 : v.toList ++ st.map (ov_tv u) = (r.toList ++ st).map (ov_tv u) := by
    rw [hv]
    cases r <;> rfl
  show Steps p.tables e below (T'.setTop (F0 m (pc + 3) lr (v.toList ++ st.map (ov_tv u)))) t2
  rw [e3]
  exact a1
/-- what every call's link holds: the callee's words -/
def ov_lB (N : ov_M) (np : Nat) : Prop := Cond.initialized N.1.cls ∈ lw_tbl ∧ Cond.code N.1 N.2.1 N.2.2.1 N.2.2.2 ∈ lw_tbl ∧ (N.1.cls ≠ "java/lang/invoke/MethodHandle" ∧ N.1.cls ≠ "java/lang/invoke/VarHandle") ∧ (parseMethodDescriptor N.1.desc).map (fun d => d.parameters.length) = some np ∧ N.2.2.1 ≤ 21
def ov_lV (own : String) (idx : Nat) (N : ov_M) (np : Nat) : Prop := ov_lB N np ∧ Cond.methodLink own idx N.1 ∈ lw_tbl ∧ Cond.instanceMethod N.1 ∈ lw_tbl ∧ Cond.selects N.1.cls N.1 N.1 ∈ lw_tbl
def ov_lS (own : String) (idx : Nat) (N : ov_M) (np : Nat) : Prop := ov_lB N np ∧ Cond.methodLink own idx N.1 ∈ lw_tbl ∧ Cond.static N.1 ∈ lw_tbl
def ov_lI (own : String) (idx : Nat) (N : ov_M) (np : Nat) : Prop := ov_lB N np ∧ Cond.methodLink own idx N.1 ∈ lw_tbl ∧ Cond.instanceMethod N.1 ∈ lw_tbl ∧ N.1.name = "<init>"
def ov_lSN (own : String) (idx : Nat) (N : ov_M) (np : Nat) : Prop := ov_lB N np ∧ Cond.methodLinkNest own idx N.1 "OverFirst" ∈ lw_tbl ∧ Cond.static N.1 ∈ lw_tbl
def ov_lIN (own : String) (idx : Nat) (N : ov_M) (np : Nat) : Prop := ov_lB N np ∧ Cond.methodLinkNest own idx N.1 "OverFirst" ∈ lw_tbl ∧ Cond.instanceMethod N.1 ∈ lw_tbl ∧ N.1.name = "<init>"
theorem ov_ar {N : ov_M} {np : Nat} (h : (parseMethodDescriptor N.1.desc).map (fun d => d.parameters.length) = some np) : ∀ sig, parseMethodDescriptor N.1.desc = some sig → np = sig.parameters.length := by
  intro sig hs
  rw [hs] at h
  exact (Option.some.inj h).symm
theorem ov_cV {u : ov_U} {d : Nat} {M : ov_M} {pc : Nat} {ls : List (Nat × ov_V)} {st : List ov_V} {z : ov_Z} {h : ov_H} {Q : Option ov_V → ov_Z → ov_H → Prop} {d2 : Nat} {N : ov_M} {idx : Nat} {a : Int} {as st0 : List ov_V} {Q1 : Option ov_V → ov_Z → ov_H → Prop} (hd : decode M.2.1 pc = .ok (.invokevirtual idx, 3)) (lk : ov_lV M.1.cls idx N as.length) (hs : st0 = as.reverse ++ ov_r a :: st) (hw : ov_wd st ≤ 8) {c n : Nat} (ha : 0 ≤ a ∧ a < z.1) (hz : z.2.2 a = (5 + c, n)) (hc : c < 13 ∧ (ov_cs c).1 = N.1.cls) (hdp : d2 + 1 ≤ d) (T : ov_T u d2 N (ov_r a :: as) z h Q1)
    (kk : ∀ (r : Option ov_V) (z' : ov_Z) (h' : ov_H), Q1 r z' h' → ov_R u d M (pc + 3) ls (r.toList ++ st) z' h' Q) : ov_R u d M pc ls st0 z h Q := by
  intro hu p e s m args below meth c0 H locs cells slots lr n0 g0 C hRp hlocs hl
  have hC := C
  obtain ⟨hx, hb, hml, hret, hown, hlk, hnm, hW0, hn0, hg0⟩ := C
  obtain ⟨⟨w1, w2, hy, hpd, hmx⟩, wl⟩ := lk
  have r1 := hRp.1
  have r2 := hRp.2.1
  have r3 := hRp.2.2.1
  have r4 := hRp.2.2.2.1
  subst hs
  refine ov_ti (fun t1 t2 => ?_)
  have hws : ∀ w ∈ ov_ws N, ∀ (a' : Array Value) (U : State), s.WarmedH U.vm → w.before a' U = true := fun w hw a' U hWU => by
    rw [List.mem_singleton.mp hw]
    exact ov_word hu (State.WarmedH.trans hW0 hWU) w2 rfl a'
  have hnp := ov_ar hpd
  have hRd : (ov_rm u d2 z.1 z.2.1).frames + 1 ≤ (ov_rm u d n0 g0).frames ∧ 8 + (N.2.2.1 + 11) + (ov_rm u d2 z.1 z.2.1).locals ≤ (ov_rm u d n0 g0).locals := by
    show d2 + 1 ≤ d ∧ 8 + (N.2.2.1 + 11) + 40 * d2 ≤ 40 * d
    omega
  have hroom : H.size - s.heap.size + (ov_K u - z.1) ≤ (ov_rm u d n0 g0).cells ∧ ov_sum H - ov_sum s.heap + (ov_S u - z.2.1) ≤ (ov_rm u d n0 g0).slots := by
    show _ ≤ ov_K u - n0 ∧ _ ≤ ov_S u - g0
    omega
  have hwd : 2 * (F0 m pc lr ((as.reverse ++ ov_r a :: st).map (ov_tv u))).monitorRoom + ((st.map (ov_tv u)).map fun v => v.category).sum ≤ 8 := by
    rw [ov_ctg]
    show 2 * 0 + _ ≤ 8
    omega
  have hblind := ov_blind u (ov_r a :: as) z h
  obtain ⟨cell, q1, q2, q3, -⟩ := ov_obj hRp ha.1 ha.2 hz
  obtain ⟨-, hfc, -⟩ := (ov_kn hu hW0).1 c _ (ov_clat c hc.1)
  have er : ov_tv u (ov_r a) = .ref (ov_B u + a.toNat) := ov_rv_pos u ha.1
  refine ov_aft (Q1 := Q1) hu hC hlocs hl (va_runV (b := ov_B u + a.toNat) (C := N.1.cls) (As := as.map (ov_tv u)) (bytes := N.2.1) (maxL := N.2.2.1) (ret := N.2.2.2) ⟨hx, hb, hml, hown, fun w (hw : w ∈ ([] : List Cond)) => by cases hw⟩ (T hu) ⟨⟨rfl, rfl, hRd.1, hRd.2, hws, List.mem_singleton.mpr rfl, ov_word hu hW0 w2 rfl args, ov_word hu hW0 w1 rfl args, hy, hnp, ov_word hu hW0 wl.1 rfl args⟩, ov_word hu hW0 wl.2.1 rfl args, ov_word hu hW0 wl.2.2 rfl args⟩ ⟨hblind, ⟨cell, q1, by rw [q3]; rfl, by rw [q2, ← hc.2]; exact hfc⟩, fun U hU hWU => ⟨by rw [List.map_cons, er], by rw [hU]; exact hRp, State.WarmedH.trans hW0 hWU⟩⟩ rfl (by simp) hl.1 ?_ hwd hd hroom) kk
  show (as.reverse ++ ov_r a :: st).map (ov_tv u) = _
  rw [List.map_append, List.map_cons, er, List.map_reverse]

theorem ov_cS {u : ov_U} {d : Nat} {M : ov_M} {pc : Nat} {ls : List (Nat × ov_V)} {st : List ov_V} {z : ov_Z} {h : ov_H} {Q : Option ov_V → ov_Z → ov_H → Prop} {d2 : Nat} {N : ov_M} {idx : Nat} {as st0 : List ov_V} {Q1 : Option ov_V → ov_Z → ov_H → Prop} (hd : decode M.2.1 pc = .ok (.invokestatic idx, 3)) (lk : ov_lS M.1.cls idx N as.length) (hs : st0 = as.reverse ++ st) (hw : ov_wd st ≤ 8) (hdp : d2 + 1 ≤ d) (T : ov_T u d2 N (as) z h Q1)
    (kk : ∀ (r : Option ov_V) (z' : ov_Z) (h' : ov_H), Q1 r z' h' → ov_R u d M (pc + 3) ls (r.toList ++ st) z' h' Q) : ov_R u d M pc ls st0 z h Q := by
  intro hu p e s m args below meth c0 H locs cells slots lr n0 g0 C hRp hlocs hl
  have hC := C
  obtain ⟨hx, hb, hml, hret, hown, hlk, hnm, hW0, hn0, hg0⟩ := C
  obtain ⟨⟨w1, w2, hy, hpd, hmx⟩, wl⟩ := lk
  have r1 := hRp.1
  have r2 := hRp.2.1
  have r3 := hRp.2.2.1
  have r4 := hRp.2.2.2.1
  subst hs
  refine ov_ti (fun t1 t2 => ?_)
  have hws : ∀ w ∈ ov_ws N, ∀ (a' : Array Value) (U : State), s.WarmedH U.vm → w.before a' U = true := fun w hw a' U hWU => by
    rw [List.mem_singleton.mp hw]
    exact ov_word hu (State.WarmedH.trans hW0 hWU) w2 rfl a'
  have hnp := ov_ar hpd
  have hRd : (ov_rm u d2 z.1 z.2.1).frames + 1 ≤ (ov_rm u d n0 g0).frames ∧ 8 + (N.2.2.1 + 11) + (ov_rm u d2 z.1 z.2.1).locals ≤ (ov_rm u d n0 g0).locals := by
    show d2 + 1 ≤ d ∧ 8 + (N.2.2.1 + 11) + 40 * d2 ≤ 40 * d
    omega
  have hroom : H.size - s.heap.size + (ov_K u - z.1) ≤ (ov_rm u d n0 g0).cells ∧ ov_sum H - ov_sum s.heap + (ov_S u - z.2.1) ≤ (ov_rm u d n0 g0).slots := by
    show _ ≤ ov_K u - n0 ∧ _ ≤ ov_S u - g0
    omega
  have hwd : 2 * (F0 m pc lr ((as.reverse ++ st).map (ov_tv u))).monitorRoom + ((st.map (ov_tv u)).map fun v => v.category).sum ≤ 8 := by
    rw [ov_ctg]
    show 2 * 0 + _ ≤ 8
    omega
  have hblind := ov_blind u (as) z h
  refine ov_aft (Q1 := Q1) hu hC hlocs hl (va_runS (As := as.map (ov_tv u)) (bytes := N.2.1) (maxL := N.2.2.1) (ret := N.2.2.2) ⟨hx, hb, hml, hown, fun w (hw : w ∈ ([] : List Cond)) => by cases hw⟩ (T hu) ⟨⟨rfl, rfl, hRd.1, hRd.2, hws, List.mem_singleton.mpr rfl, ov_word hu hW0 w2 rfl args, ov_word hu hW0 w1 rfl args, hy, hnp, ov_word hu hW0 wl.1 rfl args⟩, ov_word hu hW0 wl.2 rfl args⟩ ⟨hblind, fun U hU hWU => ⟨rfl, by rw [hU]; exact hRp, State.WarmedH.trans hW0 hWU⟩⟩ rfl (by simp) hl.1 ?_ hwd hd hroom) kk
  show (as.reverse ++ st).map (ov_tv u) = _
  rw [List.map_append, List.map_reverse]

theorem ov_cSN {u : ov_U} {d : Nat} {M : ov_M} {pc : Nat} {ls : List (Nat × ov_V)} {st : List ov_V} {z : ov_Z} {h : ov_H} {Q : Option ov_V → ov_Z → ov_H → Prop} {d2 : Nat} {N : ov_M} {idx : Nat} {as st0 : List ov_V} {Q1 : Option ov_V → ov_Z → ov_H → Prop} (hd : decode M.2.1 pc = .ok (.invokestatic idx, 3)) (lk : ov_lSN M.1.cls idx N as.length) (hs : st0 = as.reverse ++ st) (hw : ov_wd st ≤ 8) (hdp : d2 + 1 ≤ d) (T : ov_T u d2 N (as) z h Q1)
    (kk : ∀ (r : Option ov_V) (z' : ov_Z) (h' : ov_H), Q1 r z' h' → ov_R u d M (pc + 3) ls (r.toList ++ st) z' h' Q) : ov_R u d M pc ls st0 z h Q := by
  intro hu p e s m args below meth c0 H locs cells slots lr n0 g0 C hRp hlocs hl
  have hC := C
  obtain ⟨hx, hb, hml, hret, hown, hlk, hnm, hW0, hn0, hg0⟩ := C
  obtain ⟨⟨w1, w2, hy, hpd, hmx⟩, wl⟩ := lk
  have r1 := hRp.1
  have r2 := hRp.2.1
  have r3 := hRp.2.2.1
  have r4 := hRp.2.2.2.1
  subst hs
  refine ov_ti (fun t1 t2 => ?_)
  have hws : ∀ w ∈ ov_ws N, ∀ (a' : Array Value) (U : State), s.WarmedH U.vm → w.before a' U = true := fun w hw a' U hWU => by
    rw [List.mem_singleton.mp hw]
    exact ov_word hu (State.WarmedH.trans hW0 hWU) w2 rfl a'
  have hnp := ov_ar hpd
  have hRd : (ov_rm u d2 z.1 z.2.1).frames + 1 ≤ (ov_rm u d n0 g0).frames ∧ 8 + (N.2.2.1 + 11) + (ov_rm u d2 z.1 z.2.1).locals ≤ (ov_rm u d n0 g0).locals := by
    show d2 + 1 ≤ d ∧ 8 + (N.2.2.1 + 11) + 40 * d2 ≤ 40 * d
    omega
  have hroom : H.size - s.heap.size + (ov_K u - z.1) ≤ (ov_rm u d n0 g0).cells ∧ ov_sum H - ov_sum s.heap + (ov_S u - z.2.1) ≤ (ov_rm u d n0 g0).slots := by
    show _ ≤ ov_K u - n0 ∧ _ ≤ ov_S u - g0
    omega
  have hwd : 2 * (F0 m pc lr ((as.reverse ++ st).map (ov_tv u))).monitorRoom + ((st.map (ov_tv u)).map fun v => v.category).sum ≤ 8 := by
    rw [ov_ctg]
    show 2 * 0 + _ ≤ 8
    omega
  have hblind := ov_blind u (as) z h
  refine ov_aft (Q1 := Q1) hu hC hlocs hl (va_runSN (As := as.map (ov_tv u)) (bytes := N.2.1) (maxL := N.2.2.1) (ret := N.2.2.2) ⟨hx, hb, hml, hown, fun w (hw : w ∈ ([] : List Cond)) => by cases hw⟩ (T hu) ⟨⟨⟨rfl, rfl, hRd.1, hRd.2, hws, List.mem_singleton.mpr rfl⟩, ov_word hu hW0 w2 rfl args, ov_word hu hW0 w1 rfl args, hy, hnp, va_Nw.use rfl (va_Nw.warmM hW0 (va_Nw.of rfl (hu.1 _ wl.1)))⟩, ov_word hu hW0 wl.2 rfl args, trivial⟩ ⟨hblind, fun U hU hWU => ⟨rfl, by rw [hU]; exact hRp, State.WarmedH.trans hW0 hWU⟩⟩ rfl (by simp) hl.1 ?_ hwd hd hroom) kk
  show (as.reverse ++ st).map (ov_tv u) = _
  rw [List.map_append, List.map_reverse]

theorem ov_cI {u : ov_U} {d : Nat} {M : ov_M} {pc : Nat} {ls : List (Nat × ov_V)} {st : List ov_V} {z : ov_Z} {h : ov_H} {Q : Option ov_V → ov_Z → ov_H → Prop} {d2 : Nat} {N : ov_M} {idx : Nat} {a : Int} {as st0 : List ov_V} {Q1 : Option ov_V → ov_Z → ov_H → Prop} (hret0 : N.2.2.2 = none) (hd : decode M.2.1 pc = .ok (.invokespecial idx, 3)) (lk : ov_lI M.1.cls idx N as.length) (hs : st0 = as.reverse ++ ov_r a :: st) (hw : ov_wd st ≤ 8) (ha : 0 ≤ a) (hdp : d2 + 1 ≤ d) (T : ov_T u d2 N (ov_r a :: as) z h Q1)
    (kk : ∀ (r : Option ov_V) (z' : ov_Z) (h' : ov_H), Q1 r z' h' → ov_R u d M (pc + 3) ls (r.toList ++ st) z' h' Q) : ov_R u d M pc ls st0 z h Q := by
  intro hu p e s m args below meth c0 H locs cells slots lr n0 g0 C hRp hlocs hl
  have hC := C
  obtain ⟨hx, hb, hml, hret, hown, hlk, hnm, hW0, hn0, hg0⟩ := C
  obtain ⟨⟨w1, w2, hy, hpd, hmx⟩, wl⟩ := lk
  have r1 := hRp.1
  have r2 := hRp.2.1
  have r3 := hRp.2.2.1
  have r4 := hRp.2.2.2.1
  subst hs
  refine ov_ti (fun t1 t2 => ?_)
  have hws : ∀ w ∈ ov_ws N, ∀ (a' : Array Value) (U : State), s.WarmedH U.vm → w.before a' U = true := fun w hw a' U hWU => by
    rw [List.mem_singleton.mp hw]
    exact ov_word hu (State.WarmedH.trans hW0 hWU) w2 rfl a'
  have hnp := ov_ar hpd
  have hRd : (ov_rm u d2 z.1 z.2.1).frames + 1 ≤ (ov_rm u d n0 g0).frames ∧ 8 + (N.2.2.1 + 11) + (ov_rm u d2 z.1 z.2.1).locals ≤ (ov_rm u d n0 g0).locals := by
    show d2 + 1 ≤ d ∧ 8 + (N.2.2.1 + 11) + 40 * d2 ≤ 40 * d
    omega
  have hroom : H.size - s.heap.size + (ov_K u - z.1) ≤ (ov_rm u d n0 g0).cells ∧ ov_sum H - ov_sum s.heap + (ov_S u - z.2.1) ≤ (ov_rm u d n0 g0).slots := by
    show _ ≤ ov_K u - n0 ∧ _ ≤ ov_S u - g0
    omega
  have hwd : 2 * (F0 m pc lr ((as.reverse ++ ov_r a :: st).map (ov_tv u))).monitorRoom + ((st.map (ov_tv u)).map fun v => v.category).sum ≤ 8 := by
    rw [ov_ctg]
    show 2 * 0 + _ ≤ 8
    omega
  have hblind := ov_blind u (ov_r a :: as) z h
  have er : ov_tv u (ov_r a) = .ref (ov_B u + a.toNat) := ov_rv_pos u ha
  obtain ⟨y, bytes, maxL, ret⟩ := N
  dsimp only at hret0
  subst hret0
  refine ov_aft (Q1 := Q1) hu hC hlocs hl (va_runI (b := ov_B u + a.toNat) (As := as.map (ov_tv u)) (bytes := bytes) (maxL := maxL) ⟨hx, hb, hml, hown, fun w (hw : w ∈ ([] : List Cond)) => by cases hw⟩ (T hu) ⟨⟨rfl, rfl, hRd.1, hRd.2, hws, List.mem_singleton.mpr rfl, ov_word hu hW0 w2 rfl args, ov_word hu hW0 w1 rfl args, hy, hnp, ov_word hu hW0 wl.1 rfl args⟩, wl.2.2, ov_word hu hW0 wl.2.1 rfl args⟩ ⟨hblind, fun U hU hWU => ⟨by rw [List.map_cons, er], by rw [hU]; exact hRp, State.WarmedH.trans hW0 hWU⟩⟩ rfl (by simp) hl.1 ?_ hwd hd hroom) kk
  show (as.reverse ++ ov_r a :: st).map (ov_tv u) = _
  rw [List.map_append, List.map_cons, er, List.map_reverse]

theorem ov_cIN {u : ov_U} {d : Nat} {M : ov_M} {pc : Nat} {ls : List (Nat × ov_V)} {st : List ov_V} {z : ov_Z} {h : ov_H} {Q : Option ov_V → ov_Z → ov_H → Prop} {d2 : Nat} {N : ov_M} {idx : Nat} {a : Int} {as st0 : List ov_V} {Q1 : Option ov_V → ov_Z → ov_H → Prop} (hret0 : N.2.2.2 = none) (hd : decode M.2.1 pc = .ok (.invokespecial idx, 3)) (lk : ov_lIN M.1.cls idx N as.length) (hs : st0 = as.reverse ++ ov_r a :: st) (hw : ov_wd st ≤ 8) (ha : 0 ≤ a) (hdp : d2 + 1 ≤ d) (T : ov_T u d2 N (ov_r a :: as) z h Q1)
    (kk : ∀ (r : Option ov_V) (z' : ov_Z) (h' : ov_H), Q1 r z' h' → ov_R u d M (pc + 3) ls (r.toList ++ st) z' h' Q) : ov_R u d M pc ls st0 z h Q := by
  intro hu p e s m args below meth c0 H locs cells slots lr n0 g0 C hRp hlocs hl
  have hC := C
  obtain ⟨hx, hb, hml, hret, hown, hlk, hnm, hW0, hn0, hg0⟩ := C
  obtain ⟨⟨w1, w2, hy, hpd, hmx⟩, wl⟩ := lk
  have r1 := hRp.1
  have r2 := hRp.2.1
  have r3 := hRp.2.2.1
  have r4 := hRp.2.2.2.1
  subst hs
  refine ov_ti (fun t1 t2 => ?_)
  have hws : ∀ w ∈ ov_ws N, ∀ (a' : Array Value) (U : State), s.WarmedH U.vm → w.before a' U = true := fun w hw a' U hWU => by
    rw [List.mem_singleton.mp hw]
    exact ov_word hu (State.WarmedH.trans hW0 hWU) w2 rfl a'
  have hnp := ov_ar hpd
  have hRd : (ov_rm u d2 z.1 z.2.1).frames + 1 ≤ (ov_rm u d n0 g0).frames ∧ 8 + (N.2.2.1 + 11) + (ov_rm u d2 z.1 z.2.1).locals ≤ (ov_rm u d n0 g0).locals := by
    show d2 + 1 ≤ d ∧ 8 + (N.2.2.1 + 11) + 40 * d2 ≤ 40 * d
    omega
  have hroom : H.size - s.heap.size + (ov_K u - z.1) ≤ (ov_rm u d n0 g0).cells ∧ ov_sum H - ov_sum s.heap + (ov_S u - z.2.1) ≤ (ov_rm u d n0 g0).slots := by
    show _ ≤ ov_K u - n0 ∧ _ ≤ ov_S u - g0
    omega
  have hwd : 2 * (F0 m pc lr ((as.reverse ++ ov_r a :: st).map (ov_tv u))).monitorRoom + ((st.map (ov_tv u)).map fun v => v.category).sum ≤ 8 := by
    rw [ov_ctg]
    show 2 * 0 + _ ≤ 8
    omega
  have hblind := ov_blind u (ov_r a :: as) z h
  have er : ov_tv u (ov_r a) = .ref (ov_B u + a.toNat) := ov_rv_pos u ha
  obtain ⟨y, bytes, maxL, ret⟩ := N
  dsimp only at hret0
  subst hret0
  refine ov_aft (Q1 := Q1) hu hC hlocs hl (va_runIN (b := ov_B u + a.toNat) (As := as.map (ov_tv u)) (bytes := bytes) (maxL := maxL) ⟨hx, hb, hml, hown, fun w (hw : w ∈ ([] : List Cond)) => by cases hw⟩ (T hu) ⟨⟨⟨rfl, rfl, hRd.1, hRd.2, hws, List.mem_singleton.mpr rfl⟩, ov_word hu hW0 w2 rfl args, ov_word hu hW0 w1 rfl args, hy, hnp, va_Nw.use rfl (va_Nw.warmM hW0 (va_Nw.of rfl (hu.1 _ wl.1)))⟩, wl.2.2, ov_word hu hW0 wl.2.1 rfl args⟩ ⟨hblind, fun U hU hWU => ⟨by rw [List.map_cons, er], by rw [hU]; exact hRp, State.WarmedH.trans hW0 hWU⟩⟩ rfl (by simp) hl.1 ?_ hwd hd hroom) kk
  show (as.reverse ++ ov_r a :: st).map (ov_tv u) = _
  rw [List.map_append, List.map_cons, er, List.map_reverse]

theorem ov_oi {u : ov_U} {d : Nat} {M : ov_M} {pc : Nat} {ls : List (Nat × ov_V)} {st : List ov_V} {z : ov_Z} {h : ov_H} {Q : Option ov_V → ov_Z → ov_H → Prop} {idx : Nat} {a : Int} (hd : decode M.2.1 pc = .ok (.invokespecial idx, 3)) (w1 : Cond.methodLink M.1.cls idx Lib.objectInit ∈ lw_tbl) (w2 : Cond.instanceMethod Lib.objectInit ∈ lw_tbl) (w3 : Cond.code Lib.objectInit ⟨#[0xb1]⟩ 1 none ∈ lw_tbl) (ha : 0 ≤ a) (hw : ov_wd st ≤ 8) (hdp : 1 ≤ d) (kk : ov_R u d M (pc + 3) ls st z h Q) : ov_R u d M pc ls (ov_r a :: st) z h Q := by
  intro hu p e s m args below meth c0 H locs cells slots lr n0 g0 C hRp hlocs hl
  have K := kk hu p e s m args below meth c0 H locs cells slots lr n0 g0 C hRp hlocs hl
  obtain ⟨hx, hb, hml, hret, hown, hlk, hnm, hW0, hn0, hg0⟩ := C
  simp only [List.map_cons] at K ⊢
  rw [show ov_tv u (ov_r a) = .ref (ov_B u + a.toNat) from ov_rv_pos u ha]
  refine W.objInit hx hb hown (ov_word hu hW0 w1 rfl args) (ov_word hu hW0 w2 rfl args) (ov_word hu hW0 w3 rfl args) rfl (hl.1.trans hml.symm) rfl hd (by show 1 ≤ d; exact hdp) ?_ K
  rw [ov_ctg]
  show 2 * 0 + _ + 12 ≤ 40 * d
  omega
/-! entry of a method of a class that has natives (java.lang.Math) -/
theorem ov_enF {u : ov_U} {d : Nat} {M : ov_M} {as : List ov_V} {z : ov_Z} {h : ov_H} {Q : Option ov_V → ov_Z → ov_H → Prop} (hp : plainFor M.1 = true) (hn : ov_wd as ≤ M.2.2.1)
    (k : ov_R u d M 0 (ov_as 0 as) [] z h Q) : ov_T u d M as z h Q := by
  intro hu
  obtain ⟨y, bytes, maxL, ret⟩ := M
  refine MetFree.of_bodySF (code := bytes) (maxLocals := maxL) (ret := ret) hp ?_ ?_
  · intro args s m h hn
    obtain ⟨meth, c, h1, h2, h3, h4, h5, h6, -, -⟩ := Cond.code_spec hn (atoms_spec (ws := ov_ws (y, bytes, maxL, ret)) h _ List.mem_cons_self)
    exact ⟨meth, c, h1, h2, h3, h4, h5, h6⟩
  · intro p e s m args below meth c s₁ B hml hv _
    obtain ⟨rfl, hRp, hW⟩ := hv
    have hl := lv_entry (as.map (ov_tv u)) (n := maxL) (by rw [ov_wd_eq]; exact hn)
    rw [ov_as_eq] at hl
    have hh0 : s₁.heap = s.heap := by rw [B.state]; rfl
    have K := k hu p e s m (as.map (ov_tv u)).toArray below meth c s.heap [] 0 0 _ z.1 z.2.1 ⟨B.exec, B.bytes, hml, B.returns, findClass_of_methodNamed B.named, B.notSynchronized, (name_of_methodNamed B.named B.method).1, hW, hRp.1, hRp.2.1⟩ hRp (fun _ h => by cases h) hl
    obtain ⟨t, a1, o, b1, b2, b3⟩ := K s₁ hh0 (Stand.of_body B)
    rw [lg_entry_eq]
    exact ⟨t, o, a1, b1, b2, ⟨b3.1, b3.2⟩⟩

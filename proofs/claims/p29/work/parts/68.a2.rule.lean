/-! reads of the static row and of the string constant, exactly -/
theorem pt_laldR {u : ov_U} {d : Nat} {M : ov_M} {pc : Nat} {ls : List (Nat × ov_V)} {st : List ov_V} {z : ov_Z} {h : ov_H} {Q : Option ov_V → ov_Z → ov_H → Prop} {i : Int} (hd : decode M.2.1 pc = .ok (.laload, 1)) (S : ov_str u) (hi : 0 ≤ i ∧ i < 20) (k : ov_R u d M (pc + 1) ls (ov_l (pt_rv i) :: st) z h Q) : ov_R u d M pc ls (ov_i i :: ov_r (-2) :: st) z h Q := by
  intro hu p e s m args below meth c H locs cells slots lr n0 g0 C hRp hlocs hl
  have K := k hu p e s m args below meth c H locs cells slots lr n0 g0 C hRp hlocs hl
  obtain ⟨hx, hb, hml, hret, hown, hlk, hnm, hW0, hn0, hg0⟩ := C
  obtain ⟨cell, h1, h2, h3, h4, h5, h6, h7⟩ := ((ov_TR S).moved hW0.alike).kept (H1 := H) (fun a ha _ => hRp.2.2.2.2.1 a ha)
  simp only [List.map_cons] at K ⊢
  rw [ov_rvn u (by decide)]
  have e1 : (Int32.ofInt i).toNatClampNeg = i.toNat := ov_ix ⟨hi.1, by omega⟩
  refine W.lald (v := .long (ov_resv.getD i.toNat 0)) hx hb h1 h2 h3 ?_ ?_ rfl rfl hd ?_
  · intro q
    rcases q with q | q
    · exact ov_ixn (n := 20) ⟨hi.1, hi.2, by omega⟩ (Or.inl q)
    · rw [e1] at q
      omega
  · rw [e1]
    exact h6 _ (by omega)
  · rw [show ov_tv u (ov_l (pt_rv i)) = .long (ov_resv.getD i.toNat 0) by simp [ov_tv, pt_rv]] at K
    exact K
theorem pt_baldB {u : ov_U} {d : Nat} {M : ov_M} {pc : Nat} {ls : List (Nat × ov_V)} {st : List ov_V} {z : ov_Z} {h : ov_H} {Q : Option ov_V → ov_Z → ov_H → Prop} {i : Int} (hd : decode M.2.1 pc = .ok (.baload, 1)) (S : ov_str u) (hi : 0 ≤ i ∧ i < 8) (k : ov_R u d M (pc + 1) ls (ov_i (pt_bv i) :: st) z h Q) : ov_R u d M pc ls (ov_i i :: ov_r (-5) :: st) z h Q := by
  intro hu p e s m args below meth c H locs cells slots lr n0 g0 C hRp hlocs hl
  have K := k hu p e s m args below meth c H locs cells slots lr n0 g0 C hRp hlocs hl
  obtain ⟨hx, hb, hml, hret, hown, hlk, hnm, hW0, hn0, hg0⟩ := C
  obtain ⟨cell, h1, h2, h3, h4, h5, h6, h7⟩ := ((ov_TB S).moved hW0.alike).kept (H1 := H) (fun a ha _ => hRp.2.2.2.2.1 a ha)
  simp only [List.map_cons] at K ⊢
  rw [ov_rvn u (by decide)]
  have e1 : (Int32.ofInt i).toNatClampNeg = i.toNat := ov_ix ⟨hi.1, by omega⟩
  refine W.bald (v := .int (ov_byt.getD i.toNat 0)) hx hb h1 h2 h3 ?_ ?_ rfl rfl hd ?_
  · intro q
    rcases q with q | q
    · exact ov_ixn (n := 8) ⟨hi.1, hi.2, by omega⟩ (Or.inl q)
    · rw [e1] at q
      omega
  · rw [e1]
    exact h6 _ (by omega)
  · rw [show ov_tv u (ov_i (pt_bv i)) = .int (ov_byt.getD i.toNat 0) by simp [ov_tv, pt_bv]] at K
    exact K
theorem pt_i2bT {u : ov_U} {d : Nat} {M : ov_M} {pc : Nat} {ls : List (Nat × ov_V)} {st : List ov_V} {z : ov_Z} {h : ov_H} {Q : Option ov_V → ov_Z → ov_H → Prop} {a : Int} (hd : decode M.2.1 pc = .ok (.i2b, 1)) (k : ov_R u d M (pc + 1) ls (ov_i (pt_i2b a) :: st) z h Q) : ov_R u d M pc ls (ov_i a :: st) z h Q := by
  intro hu p e s m args below meth c H locs cells slots lr n0 g0 C hRp hlocs hl
  have K := k hu p e s m args below meth c H locs cells slots lr n0 g0 C hRp hlocs hl
  obtain ⟨hx, hb, hml, hret, hown, hlk, hnm, hW0, hn0, hg0⟩ := C
  simp only [List.map_cons] at K ⊢
  rw [show ov_tv u (ov_i (pt_i2b a)) = .int ((Int32.ofInt a).toInt8.toInt32) by show Value.int (Int32.ofInt (pt_i2b a)) = _; unfold pt_i2b; rw [Int32.ofInt_toInt]] at K
  exact lv_i2b hx hb hd rfl K

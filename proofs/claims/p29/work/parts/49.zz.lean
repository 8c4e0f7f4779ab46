/-! longs kept within their range -/
theorem ov_nrml {u : ov_U} {d : Nat} {M : ov_M} {pc : Nat} {ls : List (Nat × ov_V)} {st : List ov_V} {z : ov_Z} {h : ov_H} {Q : Option ov_V → ov_Z → ov_H → Prop} {a : Int} (k : ov_R u d M pc ls (ov_l (ov_wl a) :: st) z h Q) : ov_R u d M pc ls (ov_l a :: st) z h Q := by
  intro hu p e s m args below meth c H locs cells slots lr n0 g0 C hRp hlocs hl
  have K := k hu p e s m args below meth c H locs cells slots lr n0 g0 C hRp hlocs hl
  simp only [List.map_cons, ov_tv, ov_wl, Int64.ofInt_toInt] at K ⊢
  exact K
theorem ov_lrmn {a b : Int} (ha : ov_gl a) (hb : ov_gl b) (hn : b ≠ 0) : ov_gl (Int.tmod a b) ∧ (Int.tmod a b).natAbs < b.natAbs := by
  have h1 : (Int.tmod a b).natAbs < b.natAbs := by
    rw [Int.natAbs_tmod]
    exact Nat.mod_lt _ (by omega)
  exact ⟨by constructor <;> omega, h1⟩

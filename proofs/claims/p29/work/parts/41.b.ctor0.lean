/-! the rows that the constructors leave -/
def ov_T0l : List (Int → Int) := [(ov_rs (ov_rs (ov_rs (ov_rs (ov_rs (ov_rs (ov_rs (ov_rs (ov_rs (ov_rs (ov_rs (ov_rs (ov_rs (ov_rs (ov_df 0) 0 1) 1 3) 2 4) 3 9) 4 14) 5 35) 6 36) 7 46) 8 49) 9 54) 10 58) 11 70) 12 82) 13 86), (ov_rs (ov_df 8) 0 2), (fun _ => 0), (ov_rs (ov_df 6) 0 1), (ov_rs (ov_rs (ov_rs (ov_rs (ov_df 7) 6 5) 7 6) 8 7) 9 8), (fun _ => 0), (fun _ => 0), (fun _ => 0), (fun _ => 0), (ov_rs (ov_rs (ov_rs (ov_rs (ov_df 3) 2 10) 3 11) 4 12) 5 13), (fun _ => 0), (fun _ => 0), (fun _ => 0), (fun _ => 0), (ov_rs (ov_rs (ov_rs (ov_rs (fun _ => -1) 0 15) 1 20) 2 25) 3 30), (ov_rs (ov_rs (ov_rs (ov_rs (ov_df 7) 6 16) 7 17) 8 18) 9 19), (fun _ => 0), (fun _ => 0), (fun _ => 0), (fun _ => 0), (ov_rs (ov_rs (ov_rs (ov_rs (ov_df 7) 6 21) 7 22) 8 23) 9 24), (fun _ => 0), (fun _ => 0), (fun _ => 0), (fun _ => 0), (ov_rs (ov_rs (ov_rs (ov_rs (ov_df 7) 6 26) 7 27) 8 28) 9 29), (fun _ => 0), (fun _ => 0), (fun _ => 0), (fun _ => 0), (ov_rs (ov_rs (ov_rs (ov_rs (ov_df 7) 6 31) 7 32) 8 33) 9 34), (fun _ => 0), (fun _ => 0), (fun _ => 0), (fun _ => 0), (fun _ => 0), (ov_rs (ov_rs (ov_rs (ov_rs (ov_rs (ov_df 2) 2 37) 3 40) 4 43) 5 44) 6 45), (ov_rs (ov_rs (ov_df 4) 0 38) 1 39), (fun _ => 0), (fun _ => 0), (ov_rs (ov_rs (ov_df 4) 0 41) 1 42), (fun _ => 0), (fun _ => 0), (fun _ => 0), (fun _ => 0), (fun _ => 0), (ov_rs (ov_rs (ov_df 12) 5 47) 6 48), (fun _ => 0), (fun _ => 0), (ov_rs (ov_rs (ov_rs (ov_df 5) 2 50) 3 51) 7 (-1)), (fun _ => 0), (ov_rs (ov_rs (ov_df 4) 0 52) 1 53), (fun _ => 0), (fun _ => 0), (ov_rs (ov_rs (ov_rs (ov_rs (ov_df 11) 1 55) 2 56) 3 57) 8 (-1)), (fun _ => 0), (fun _ => 0), (fun _ => 0), (ov_rs (ov_rs (ov_rs (ov_rs (ov_rs (ov_rs (ov_rs (ov_rs (ov_rs (ov_rs (ov_rs (ov_df 9) 2 59) 3 60) 4 61) 5 62) 6 63) 7 64) 12 65) 13 66) 14 67) 15 68) 17 69), (fun _ => 0), (fun _ => 0), (fun _ => 0), (fun _ => 0), (fun _ => 0), (fun _ => 0), (fun _ => 0), (fun _ => 0), (fun _ => 0), (fun _ => 0), (fun _ => 0), (ov_rs (ov_rs (ov_rs (ov_rs (ov_rs (ov_rs (ov_rs (ov_rs (ov_rs (ov_rs (ov_rs (ov_df 9) 2 71) 3 72) 4 73) 5 74) 6 75) 7 76) 12 77) 13 78) 14 79) 15 80) 17 81), (fun _ => 0), (fun _ => 0), (fun _ => 0), (fun _ => 0), (fun _ => 0), (fun _ => 0), (fun _ => 0), (fun _ => 0), (fun _ => 0), (fun _ => 0), (fun _ => 0), (ov_rs (ov_rs (ov_rs (ov_df 10) 2 83) 3 84) 4 85), (fun _ => 0), (fun _ => 0), (fun _ => 0), (ov_rs (ov_rs (ov_rs (ov_df 10) 2 87) 3 88) 4 89), (fun _ => 0), (fun _ => 0), (fun _ => 0), (ov_rs (ov_rs (ov_rs (ov_rs (ov_rs (ov_rs (ov_rs (ov_rs (ov_rs (ov_rs (ov_rs (ov_rs (ov_rs (ov_rs (ov_rs (ov_rs (ov_rs (ov_rs (ov_rs (ov_rs (ov_rs (ov_rs (ov_rs (ov_rs (ov_rs (ov_rs (ov_df 1) 1 91) 4 92) 5 93) 6 94) 9 95) 10 96) 11 97) 12 98) 14 99) 16 100) 17 101) 18 102) 19 103) 21 104) 23 105) 24 106) 26 (-1)) 29 (-1)) 31 107) 32 108) 36 109) 38 110) 39 111) 40 112) 41 113) 47 114), (fun _ => 0), (fun _ => 0), (fun _ => 0), (fun _ => 0), (ov_rs (ov_rs (ov_rs (ov_rs (ov_rs (ov_rs (ov_rs (ov_rs (ov_rs (ov_rs (ov_rs (ov_rs (ov_rs (ov_rs (ov_rs (ov_rs (ov_rs (ov_rs (ov_rs (ov_rs (ov_rs (ov_rs (fun _ => 0) 0 1034460) 1 22955708) 2 2793) 3 940952) 4 1166843) 5 25433) 6 979413) 7 941040) 8 6040476) 9 34523964) 10 790116) 11 569) 12 8787) 13 6250976) 14 571827392) 15 179086304) 16 1138236000) 17 19741) 18 1891) 19 573) 20 614923) 21 793), (fun _ => 0), (fun _ => 0), (fun _ => 0), (fun _ => 0), (fun _ => 0), (fun _ => 0), (fun _ => 0), (fun _ => 0), (fun _ => 0), (fun _ => 0), (fun _ => 0), (fun _ => 0), (fun _ => 0), (fun _ => 0), (fun _ => 0), (fun _ => 0), (fun _ => 0), (fun _ => 0), (fun _ => 0)]
def ov_T0 (b : Int) : Int → Int := ov_T0l.getD b.toNat (fun _ => 0)
/-! rules for the constructors -/
theorem ov_wOI : Cond.instanceMethod Lib.objectInit ∈ lw_tbl := ov_ch0 (List.mem_of_getElem? (i := 29) (by decide +kernel))
theorem ov_wOC : Cond.code Lib.objectInit ⟨#[0xb1]⟩ 1 none ∈ lw_tbl := ov_ch0 (List.mem_of_getElem? (i := 30) (by decide +kernel))
theorem ov_wAO : Cond.arrayOver (.object "OverFirst$State") ∈ lw_tbl := ov_ch0 (List.mem_of_getElem? (i := 163) (by decide +kernel))
theorem ov_obi {u : ov_U} {d : Nat} {M : ov_M} {pc : Nat} {ls : List (Nat × ov_V)} {st : List ov_V} {z : ov_Z} {h : ov_H} {Q : Option ov_V → ov_Z → ov_H → Prop} {idx : Nat} {a : Int} (hd : decode M.2.1 pc = .ok (.invokespecial idx, 3)) (hlk0 : Cond.methodLink M.1.cls idx Lib.objectInit ∈ lw_tbl) (ha : 0 ≤ a) (hdp : 1 ≤ d) (hw : ov_wd st ≤ 8) (kk : ov_R u d M (pc + 3) ls st z h Q) : ov_R u d M pc ls (ov_r a :: st) z h Q := by
  intro hu p e s m args below meth c0 H locs cells slots lr n0 g0 C hRp hlocs hl
  have K := kk hu p e s m args below meth c0 H locs cells slots lr n0 g0 C hRp hlocs hl
  obtain ⟨hx, hb, hml, hret, hown, hlk, hnm, hW0, hn0, hg0⟩ := C
  have er : ov_tv u (ov_r a) = .ref (ov_B u + a.toNat) := ov_rv_pos u ha
  simp only [List.map_cons]
  rw [er]
  refine W.objInit hx hb hown (ov_word hu hW0 hlk0 rfl args) (ov_word hu hW0 ov_wOI rfl args) (ov_word hu hW0 ov_wOC rfl args) rfl (by rw [hml]; exact hl.1) rfl hd ?_ ?_ K
  · show 1 ≤ d
    exact hdp
  · rw [ov_ctg]
    show 2 * 0 + _ + 12 ≤ 40 * d
    omega
theorem ov_anwS {u : ov_U} {d : Nat} {M : ov_M} {pc : Nat} {ls : List (Nat × ov_V)} {st : List ov_V} {z : ov_Z} {h : ov_H} {Q : Option ov_V → ov_Z → ov_H → Prop} {idx : Nat} {n : Int} (hd : decode M.2.1 pc = .ok (.anewarray idx, 3)) (hw : Cond.classLink M.1.cls idx "OverFirst$State" ∈ lw_tbl) (hn : 0 ≤ n ∧ n ≤ 60000000) (hk : z.1 + 1 ≤ ov_K u) (hS : z.2.1 + n.toNat ≤ ov_S u) (kk : ov_R u d M (pc + 3) ls (ov_r (z.1 : Int) :: st) (ov_zn z (4, n.toNat)) (ov_nw h (z.1 : Int) (fun _ => -1)) Q) : ov_R u d M pc ls (ov_i n :: st) z h Q := by
  intro hu p e s m args below meth c0 H locs cells slots lr n0 g0 C hRp hlocs hl
  have K := fun (H1 : Heap) (ce sl : Nat) hR1 => kk hu p e s m args below meth c0 H1 locs ce sl lr n0 g0 C hR1 hlocs hl
  obtain ⟨hx, hb, hml, hret, hown, hlk, hnm, hW0, hn0, hg0⟩ := C
  have r1 := hRp.1
  have r2 := hRp.2.1
  have hnn : (Int32.ofInt n).toNatClampNeg = n.toNat := ov_ix ⟨hn.1, by omega⟩
  refine ov_ti (fun t1 t2 => ?_)
  refine W.anew hx hb hown (ov_word hu hW0 hw rfl args) (va_AO.use (va_AO.moved hW0.alike (va_AO.of (hu.1 _ ov_wAO)))) rfl hd rfl (fun q => by have := (ov_lt32 (a := n) (b := 0) ⟨by omega, by omega⟩ ov_g0).mp q; omega) (by rw [hnn]; exact Nat.le_trans (Nat.mul_le_mul_right 4 (show n.toNat ≤ 60000000 by omega)) (Nat.le_of_ble_eq_true rfl)) (by show _ ≤ ov_K u - n0; omega) (by rw [hnn]; show _ ≤ ov_S u - g0; omega) fun cA kA comp h1 h2 h3 h4 => ?_
  have hRA : va_RA s (ov_AC u 4) (.object "OverFirst$State") := (hu.2.2.1 4 (by decide)).2.moved hW0.alike
  obtain ⟨kA0, comp0, -, -, -, hra⟩ := hRA
  have ec := Option.some.inj (hra.symm.trans h1)
  subst ec
  rw [hnn]
  have enew : ({ cls := ov_AC u 4, slots := Array.replicate n.toNat .null, vm := .none } : Cell) = arrV (ov_AC u 4) n.toNat (fun _ => Value.null) := (arrV_new ..)
  rw [enew]
  have hR1 := ov_Rp_new hRp (s := (4, n.toNat)) (row := fun _ => -1) (cell := arrV (ov_AC u 4) n.toNat (fun _ => Value.null)) (H1 := H.push (arrV (ov_AC u 4) n.toNat (fun _ => Value.null))) hk hS (by simp) (by simp) (arrV_size _ _ _) (fun q hq => by rw [Array.getElem?_push, if_neg (Nat.ne_of_lt hq)]) (by
    unfold ov_co
    rw [if_pos (by show 4 < 5; decide)]
    simp
    rfl)
  have K1 := K _ (H.size - s.heap.size + 1) (ov_sum H - ov_sum s.heap + n.toNat) hR1
  simp only [List.map_cons] at K1
  rw [show ov_tv u (ov_r (z.1 : Int)) = .ref H.size from by rw [r1]; exact ov_rv_pos u (by omega)] at K1
  exact K1
theorem ov_aasS {u : ov_U} {d : Nat} {M : ov_M} {pc : Nat} {ls : List (Nat × ov_V)} {st : List ov_V} {z : ov_Z} {h : ov_H} {Q : Option ov_V → ov_Z → ov_H → Prop} {a i x : Int} {n nx : Nat} (hd : decode M.2.1 pc = .ok (.aastore, 1)) (h0 : 0 ≤ a ∧ a < z.1) (hz : z.2.2 a = (4, n)) (hi : 0 ≤ i ∧ i < n ∧ i ≤ 2147483647) (hx0 : 0 ≤ x ∧ x < z.1) (hxz : z.2.2 x = (5 + 7, nx)) (kk : ov_R u d M (pc + 1) ls st z (ov_up h a i x) Q) : ov_R u d M pc ls (ov_r x :: ov_i i :: ov_r a :: st) z h Q := by
  intro hu p e s m args below meth c0 H locs cells slots lr n0 g0 C hRp hlocs hl
  have K := fun (H1 : Heap) (locs1 : List Loc) hR1 hl1 => kk hu p e s m args below meth c0 H1 locs1 cells slots lr n0 g0 C hR1 hl1 hl
  obtain ⟨hx, hb, hml, hret, hown, hlk, hnm, hW0, hn0, hg0⟩ := C
  have q1 := ov_arr hRp h0.1 h0.2 hz (by decide)
  obtain ⟨cv, o1, o2, o3, -⟩ := ov_obj hRp hx0.1 hx0.2 hxz
  have hcls := ((ov_kn hu hW0).1 7 _ (ov_clat 7 (by decide))).2
  have hRA : va_RA s (ov_AC u 4) (.object "OverFirst$State") := (hu.2.2.1 4 (by decide)).2.moved hW0.alike
  obtain ⟨kA, comp, a2, a3, a1, -⟩ := hRA
  have hf : s.vm.findClass "OverFirst$State" = some ((ov_D u).1 7) := hcls.1
  have ecomp := Option.some.inj (a1.symm.trans hf)
  subst ecomp
  obtain ⟨kC, hkC, -⟩ := hcls.2
  simp only [List.map_cons] at K ⊢
  rw [show ov_tv u (ov_r a) = .ref (ov_B u + a.toNat) from ov_rv_pos u h0.1, show ov_tv u (ov_r x) = .ref (ov_B u + x.toNat) from ov_rv_pos u hx0.1]
  refine W.aast hx hb q1 (fun q hq => by cases hq) (fun hq => by cases hq) a2 a3 rfl hkC ⟨fun q => ov_ixn hi (Or.inl q), Nat.not_le.mp fun q => ov_ixn hi (Or.inr (by rw [arrV_size] at q; exact q))⟩ o1 (fun q hq => by rw [o3] at hq; cases hq) (by rw [o2]; exact hkC) (by rw [o2]; exact va_assign hcls) rfl rfl hd fun H' e1 e2 e3 => ?_
  refine K H' _ (ov_Rp_put hRp h0.1 h0.2 e2 (ov_sum_put e2 q1 e1 e3) e3 ?_) (fun q hq => ?_)
  · unfold ov_co
    rw [hz, if_pos (by show 4 < 5; decide), e1, arrV_store]
    congr 2
    funext j
    rw [ov_ix ⟨hi.1, hi.2.2⟩]
    by_cases hj : j = i.toNat
    · have e4 : (j : Int) = i := by omega
      rw [e4]
      show (if j = i.toNat then _ else _) = ov_el u _ (if a = a ∧ i = i then x else _)
      rw [if_pos hj, if_pos ⟨rfl, rfl⟩]
      exact (ov_rv_pos u hx0.1).symm
    · have : ¬ (j : Int) = i := by omega
      simp [updV, ov_up, hj, this]
  · rcases List.mem_append.mp hq with hq | hq
    · exact hlocs q hq
    · rw [List.mem_singleton.mp hq]
      exact Nat.le_add_right _ _
/-- how many slots the first cells have -/
def ov_sgm (N : Nat) : Nat := ((ov_sht.take N).map (fun s => s.2)).sum
def ov_SH (N : Nat) (z : ov_Z) : Prop := z.1 = N ∧ z.2.1 = ov_sgm N ∧ ∀ b : Int, 0 ≤ b → b < N → z.2.2 b = ov_sh0 b
theorem ov_SH_n {N : Nat} {z : ov_Z} {s : Nat × Nat} (C : ov_SH N z) (hs : ov_sh0 (N : Int) = s) (hg : ov_sgm (N + 1) = ov_sgm N + s.2) : ov_SH (N + 1) (ov_zn z s) := by
  refine ⟨by show z.1 + 1 = N + 1; rw [C.1], by show z.2.1 + s.2 = _; rw [C.2.1, hg], fun b h0 h1 => ?_⟩
  show (if b = (z.1 : Int) then s else z.2.2 b) = _
  by_cases e : b = (z.1 : Int)
  · rw [if_pos e, e, C.1, hs]
  · rw [if_neg e]
    rw [C.1] at e
    exact C.2.2 b h0 (by omega)
/-- an object at place a is being made: N cells so far, e an array that is being filled -/
def ov_BL (a : Int) (N : Nat) (e : Int) (h0 : ov_H) (z : ov_Z) (h : ov_H) (row rowe : Int → Int) : Prop :=
  ov_SH N z ∧ (∀ b : Int, b < a → h b = h0 b) ∧ (∀ b : Int, a < b → b < N → b ≠ e → h b = ov_T0 b) ∧ h a = row ∧ (a < e → h e = rowe) ∧ (0 ≤ a ∧ a < N ∧ e < N)
theorem ov_nw_ne {h : ov_H} {a b : Int} {row : Int → Int} (hb : b ≠ a) : ov_nw h a row b = h b := if_neg hb
theorem ov_nw_eq {h : ov_H} {a b : Int} {row : Int → Int} (hb : b = a) : ov_nw h a row b = row := if_pos hb
theorem ov_BL_put {a : Int} {N : Nat} {e : Int} {h0 : ov_H} {z : ov_Z} {h : ov_H} {row rowe : Int → Int} {k x : Int} (B : ov_BL a N e h0 z h row rowe) : ov_BL a N e h0 z (ov_up h a k x) (ov_rs row k x) rowe :=
  ⟨B.1, fun b hb => by rw [ov_up_ne (by omega)]; exact B.2.1 b hb, fun b h1 h2 h3 => by rw [ov_up_ne (by omega)]; exact B.2.2.1 b h1 h2 h3, by rw [ov_up_row, B.2.2.2.1], fun he => by rw [ov_up_ne (by omega)]; exact B.2.2.2.2.1 he, B.2.2.2.2.2⟩
theorem ov_BL_arr {a : Int} {N : Nat} {e : Int} {h0 : ov_H} {z : ov_Z} {h : ov_H} {row rowe : Int → Int} {k x : Int} (B : ov_BL a N e h0 z h row rowe) (he : a < e) : ov_BL a N e h0 z (ov_up h e k x) row (ov_rs rowe k x) :=
  ⟨B.1, fun b hb => by rw [ov_up_ne (by omega)]; exact B.2.1 b hb, fun b h1 h2 h3 => by rw [ov_up_ne h3]; exact B.2.2.1 b h1 h2 h3, by rw [ov_up_ne (by omega)]; exact B.2.2.2.1, fun _ => by rw [ov_up_row, B.2.2.2.2.1 he], B.2.2.2.2.2⟩
theorem ov_BL_new {a : Int} {N : Nat} {e Ni : Int} {h0 : ov_H} {z : ov_Z} {h : ov_H} {row rowe r : Int → Int} {s : Nat × Nat} (B : ov_BL a N e h0 z h row rowe) (hN : (N : Int) = Ni) (hs : ov_sh0 Ni = s) (hg : ov_sgm (N + 1) = ov_sgm N + s.2) (hT : ov_T0 Ni = r) : ov_BL a (N + 1) e h0 (ov_zn z s) (ov_nw h Ni r) row rowe := by
  have q := B.2.2.2.2.2
  refine ⟨ov_SH_n B.1 (by rw [hN]; exact hs) hg, fun b hb => by rw [ov_nw_ne (by omega)]; exact B.2.1 b hb, fun b h1 h2 h3 => ?_, by rw [ov_nw_ne (by omega)]; exact B.2.2.2.1, fun he => by rw [ov_nw_ne (by omega)]; exact B.2.2.2.2.1 he, by omega⟩
  by_cases eb : b = Ni
  · rw [ov_nw_eq eb, eb, hT]
  · rw [ov_nw_ne eb]
    exact B.2.2.1 b h1 (by omega) h3
theorem ov_BL_hole {a : Int} {N : Nat} {Ni : Int} {h0 : ov_H} {z : ov_Z} {h : ov_H} {row rowe r : Int → Int} {s : Nat × Nat} (B : ov_BL a N (-1) h0 z h row rowe) (hN : (N : Int) = Ni) (hs : ov_sh0 Ni = s) (hg : ov_sgm (N + 1) = ov_sgm N + s.2) : ov_BL a (N + 1) Ni h0 (ov_zn z s) (ov_nw h Ni r) row r := by
  have q := B.2.2.2.2.2
  refine ⟨ov_SH_n B.1 (by rw [hN]; exact hs) hg, fun b hb => by rw [ov_nw_ne (by omega)]; exact B.2.1 b hb, fun b h1 h2 h3 => by rw [ov_nw_ne h3]; exact B.2.2.1 b h1 (by omega) (by omega), by rw [ov_nw_ne (by omega)]; exact B.2.2.2.1, fun _ => ov_nw_eq rfl, by omega⟩
theorem ov_BL_close {a : Int} {N : Nat} {e : Int} {h0 : ov_H} {z : ov_Z} {h : ov_H} {row rowe : Int → Int} (B : ov_BL a N e h0 z h row rowe) (he : a < e) (hr : rowe = ov_T0 e) : ov_BL a N (-1) h0 z h row (fun _ => 0) := by
  have q := B.2.2.2.2.2
  refine ⟨B.1, B.2.1, fun b h1 h2 _ => ?_, B.2.2.2.1, fun c => by omega, by omega⟩
  by_cases eb : b = e
  · rw [eb, B.2.2.2.2.1 he, hr]
  · exact B.2.2.1 b h1 h2 eb
theorem ov_BL_sub {a : Int} {N N2 : Nat} {e : Int} {h0 : ov_H} {z z2 : ov_Z} {h h2 : ov_H} {row rowe : Int → Int} (B : ov_BL a N e h0 z h row rowe) (C : ov_SH N2 z2) (hN : N ≤ N2) (k : ∀ b : Int, b < N → h2 b = h b) (t : ∀ b : Int, N ≤ b → b < N2 → h2 b = ov_T0 b) : ov_BL a N2 e h0 z2 h2 row rowe := by
  have q := B.2.2.2.2.2
  refine ⟨C, fun b hb => by rw [k b (by omega)]; exact B.2.1 b hb, fun b h1 h3 h4 => ?_, by rw [k a (by omega)]; exact B.2.2.2.1, fun he => by rw [k e (by omega)]; exact B.2.2.2.2.1 he, by omega⟩
  by_cases eb : b < N
  · rw [k b eb]
    exact B.2.2.1 b h1 eb h4
  · exact t b (by omega) h3
theorem ov_BL_ini {a : Int} {N : Nat} {z : ov_Z} {h : ov_H} {row : Int → Int} (C : ov_SH N z) (hN : (N : Int) = a + 1) (ha : 0 ≤ a) (hr : h a = row) : ov_BL a N (-1) h z h row (fun _ => 0) :=
  ⟨C, fun _ _ => rfl, fun b h1 h2 => by omega, hr, fun c => by omega, by omega⟩
/-- what a constructor of the object at a leaves: all its cells as they are to be -/
abbrev ov_CQ (a : Int) (N : Nat) (h : ov_H) : Option ov_V → ov_Z → ov_H → Prop := fun r0 z' h' => r0 = none ∧ ov_SH N z' ∧ (∀ b : Int, b < a → h' b = h b) ∧ ∀ b : Int, a ≤ b → b < N → h' b = ov_T0 b
theorem ov_BL_fin {a : Int} {N : Nat} {h0 : ov_H} {z : ov_Z} {h : ov_H} {row rowe : Int → Int} (B : ov_BL a N (-1) h0 z h row rowe) (hr : row = ov_T0 a) : ov_CQ a N h0 none z h := by
  have q := B.2.2.2.2.2
  refine ⟨rfl, B.1, B.2.1, fun b h1 h2 => ?_⟩
  by_cases eb : b = a
  · rw [eb, B.2.2.2.1, hr]
  · exact B.2.2.1 b (by omega) h2 (by omega)
theorem ov_Bnewi {u : ov_U} {d : Nat} {M : ov_M} {pc : Nat} {ls : List (Nat × ov_V)} {st : List ov_V} {z : ov_Z} {h : ov_H} {Q : Option ov_V → ov_Z → ov_H → Prop} {a : Int} {N : Nat} {e : Int} {h0 : ov_H} {row rowe : Int → Int} {n Ni : Int} (U : ov_cap u) (B : ov_BL a N e h0 z h row rowe) (hd : decode M.2.1 pc = .ok (.newarray .int, 2)) (hn : 0 ≤ n ∧ n ≤ 60000000) (hN : (N : Int) = Ni) (hs : ov_sh0 Ni = (0, n.toNat)) (hg : ov_sgm (N + 1) = ov_sgm N + n.toNat) (hT : ov_T0 Ni = fun _ => 0) (hb : N + 1 ≤ 600000 ∧ ov_sgm (N + 1) ≤ 7302250)
    (kk : ∀ (z' : ov_Z) (h' : ov_H), ov_BL a (N + 1) e h0 z' h' row rowe → ov_R u d M (pc + 2) ls (ov_r Ni :: st) z' h' Q) : ov_R u d M pc ls (ov_i n :: st) z h Q := by
  refine ov_newi hd aw_int hn (by rw [B.1.1, U.1]; exact hb.1) (by rw [B.1.2.1, U.2.1, ← hg]; exact hb.2) ?_
  rw [show ((z.1 : Nat) : Int) = Ni by rw [B.1.1]; exact hN]
  exact kk _ _ (ov_BL_new B hN hs hg hT)
theorem ov_Bnewl {u : ov_U} {d : Nat} {M : ov_M} {pc : Nat} {ls : List (Nat × ov_V)} {st : List ov_V} {z : ov_Z} {h : ov_H} {Q : Option ov_V → ov_Z → ov_H → Prop} {a : Int} {N : Nat} {e : Int} {h0 : ov_H} {row rowe : Int → Int} {n Ni : Int} (U : ov_cap u) (B : ov_BL a N e h0 z h row rowe) (hd : decode M.2.1 pc = .ok (.newarray .long, 2)) (hn : 0 ≤ n ∧ n ≤ 60000000) (hN : (N : Int) = Ni) (hs : ov_sh0 Ni = (1, n.toNat)) (hg : ov_sgm (N + 1) = ov_sgm N + n.toNat) (hT : ov_T0 Ni = fun _ => 0) (hb : N + 1 ≤ 600000 ∧ ov_sgm (N + 1) ≤ 7302250)
    (kk : ∀ (z' : ov_Z) (h' : ov_H), ov_BL a (N + 1) e h0 z' h' row rowe → ov_R u d M (pc + 2) ls (ov_r Ni :: st) z' h' Q) : ov_R u d M pc ls (ov_i n :: st) z h Q := by
  refine ov_newl hd aw_long hn (by rw [B.1.1, U.1]; exact hb.1) (by rw [B.1.2.1, U.2.1, ← hg]; exact hb.2) ?_
  rw [show ((z.1 : Nat) : Int) = Ni by rw [B.1.1]; exact hN]
  exact kk _ _ (ov_BL_new B hN hs hg hT)
theorem ov_Bnewc {u : ov_U} {d : Nat} {M : ov_M} {pc : Nat} {ls : List (Nat × ov_V)} {st : List ov_V} {z : ov_Z} {h : ov_H} {Q : Option ov_V → ov_Z → ov_H → Prop} {a : Int} {N : Nat} {e : Int} {h0 : ov_H} {row rowe : Int → Int} {n Ni : Int} (U : ov_cap u) (B : ov_BL a N e h0 z h row rowe) (hd : decode M.2.1 pc = .ok (.newarray .char, 2)) (hn : 0 ≤ n ∧ n ≤ 60000000) (hN : (N : Int) = Ni) (hs : ov_sh0 Ni = (2, n.toNat)) (hg : ov_sgm (N + 1) = ov_sgm N + n.toNat) (hT : ov_T0 Ni = fun _ => 0) (hb : N + 1 ≤ 600000 ∧ ov_sgm (N + 1) ≤ 7302250)
    (kk : ∀ (z' : ov_Z) (h' : ov_H), ov_BL a (N + 1) e h0 z' h' row rowe → ov_R u d M (pc + 2) ls (ov_r Ni :: st) z' h' Q) : ov_R u d M pc ls (ov_i n :: st) z h Q := by
  refine ov_newc hd aw_char hn (by rw [B.1.1, U.1]; exact hb.1) (by rw [B.1.2.1, U.2.1, ← hg]; exact hb.2) ?_
  rw [show ((z.1 : Nat) : Int) = Ni by rw [B.1.1]; exact hN]
  exact kk _ _ (ov_BL_new B hN hs hg hT)
theorem ov_Bnewz {u : ov_U} {d : Nat} {M : ov_M} {pc : Nat} {ls : List (Nat × ov_V)} {st : List ov_V} {z : ov_Z} {h : ov_H} {Q : Option ov_V → ov_Z → ov_H → Prop} {a : Int} {N : Nat} {e : Int} {h0 : ov_H} {row rowe : Int → Int} {n Ni : Int} (U : ov_cap u) (B : ov_BL a N e h0 z h row rowe) (hd : decode M.2.1 pc = .ok (.newarray .boolean, 2)) (hn : 0 ≤ n ∧ n ≤ 60000000) (hN : (N : Int) = Ni) (hs : ov_sh0 Ni = (3, n.toNat)) (hg : ov_sgm (N + 1) = ov_sgm N + n.toNat) (hT : ov_T0 Ni = fun _ => 0) (hb : N + 1 ≤ 600000 ∧ ov_sgm (N + 1) ≤ 7302250)
    (kk : ∀ (z' : ov_Z) (h' : ov_H), ov_BL a (N + 1) e h0 z' h' row rowe → ov_R u d M (pc + 2) ls (ov_r Ni :: st) z' h' Q) : ov_R u d M pc ls (ov_i n :: st) z h Q := by
  refine ov_newz hd aw_boolean hn (by rw [B.1.1, U.1]; exact hb.1) (by rw [B.1.2.1, U.2.1, ← hg]; exact hb.2) ?_
  rw [show ((z.1 : Nat) : Int) = Ni by rw [B.1.1]; exact hN]
  exact kk _ _ (ov_BL_new B hN hs hg hT)
theorem ov_BnewlH {u : ov_U} {d : Nat} {M : ov_M} {pc : Nat} {ls : List (Nat × ov_V)} {st : List ov_V} {z : ov_Z} {h : ov_H} {Q : Option ov_V → ov_Z → ov_H → Prop} {a : Int} {N : Nat} {h0 : ov_H} {row rowe : Int → Int} {n Ni : Int} (U : ov_cap u) (B : ov_BL a N (-1) h0 z h row rowe) (hd : decode M.2.1 pc = .ok (.newarray .long, 2)) (hn : 0 ≤ n ∧ n ≤ 60000000) (hN : (N : Int) = Ni) (hs : ov_sh0 Ni = (1, n.toNat)) (hg : ov_sgm (N + 1) = ov_sgm N + n.toNat) (hb : N + 1 ≤ 600000 ∧ ov_sgm (N + 1) ≤ 7302250)
    (kk : ∀ (z' : ov_Z) (h' : ov_H), ov_BL a (N + 1) Ni h0 z' h' row (fun _ => 0) → ov_R u d M (pc + 2) ls (ov_r Ni :: st) z' h' Q) : ov_R u d M pc ls (ov_i n :: st) z h Q := by
  refine ov_newl hd aw_long hn (by rw [B.1.1, U.1]; exact hb.1) (by rw [B.1.2.1, U.2.1, ← hg]; exact hb.2) ?_
  rw [show ((z.1 : Nat) : Int) = Ni by rw [B.1.1]; exact hN]
  exact kk _ _ (ov_BL_hole B hN hs hg)
theorem ov_BanwH {u : ov_U} {d : Nat} {M : ov_M} {pc : Nat} {ls : List (Nat × ov_V)} {st : List ov_V} {z : ov_Z} {h : ov_H} {Q : Option ov_V → ov_Z → ov_H → Prop} {a : Int} {N : Nat} {h0 : ov_H} {row rowe : Int → Int} {idx : Nat} {n Ni : Int} (U : ov_cap u) (B : ov_BL a N (-1) h0 z h row rowe) (hd : decode M.2.1 pc = .ok (.anewarray idx, 3)) (hw : Cond.classLink M.1.cls idx "OverFirst$State" ∈ lw_tbl) (hn : 0 ≤ n ∧ n ≤ 60000000) (hN : (N : Int) = Ni) (hs : ov_sh0 Ni = (4, n.toNat)) (hg : ov_sgm (N + 1) = ov_sgm N + n.toNat) (hb : N + 1 ≤ 600000 ∧ ov_sgm (N + 1) ≤ 7302250)
    (kk : ∀ (z' : ov_Z) (h' : ov_H), ov_BL a (N + 1) Ni h0 z' h' row (fun _ => -1) → ov_R u d M (pc + 3) ls (ov_r Ni :: st) z' h' Q) : ov_R u d M pc ls (ov_i n :: st) z h Q := by
  refine ov_anwS hd hw hn (by rw [B.1.1, U.1]; exact hb.1) (by rw [B.1.2.1, U.2.1, ← hg]; exact hb.2) ?_
  rw [show ((z.1 : Nat) : Int) = Ni by rw [B.1.1]; exact hN]
  exact kk _ _ (ov_BL_hole B hN hs hg)
theorem ov_Blst {u : ov_U} {d : Nat} {M : ov_M} {pc : Nat} {ls : List (Nat × ov_V)} {st : List ov_V} {z : ov_Z} {h : ov_H} {Q : Option ov_V → ov_Z → ov_H → Prop} {a : Int} {N : Nat} {e : Int} {h0 : ov_H} {row rowe : Int → Int} {i x : Int} {n : Nat} (B : ov_BL a N e h0 z h row rowe) (hd : decode M.2.1 pc = .ok (.lastore, 1)) (he : a < e) (hs : ov_sh0 e = (1, n)) (hi : 0 ≤ i ∧ i < n ∧ i ≤ 2147483647)
    (kk : ∀ h' : ov_H, ov_BL a N e h0 z h' row (ov_rs rowe i x) → ov_R u d M (pc + 1) ls st z h' Q) : ov_R u d M pc ls (ov_l x :: ov_i i :: ov_r e :: st) z h Q := by
  have q := B.2.2.2.2.2
  exact ov_last hd ⟨by omega, by rw [B.1.1]; omega⟩ (by rw [B.1.2.2 e (by omega) (by omega)]; exact hs) hi (kk _ (ov_BL_arr B he))
theorem ov_Baas {u : ov_U} {d : Nat} {M : ov_M} {pc : Nat} {ls : List (Nat × ov_V)} {st : List ov_V} {z : ov_Z} {h : ov_H} {Q : Option ov_V → ov_Z → ov_H → Prop} {a : Int} {N : Nat} {e : Int} {h0 : ov_H} {row rowe : Int → Int} {i x : Int} {n nx : Nat} (B : ov_BL a N e h0 z h row rowe) (hd : decode M.2.1 pc = .ok (.aastore, 1)) (he : a < e) (hs : ov_sh0 e = (4, n)) (hi : 0 ≤ i ∧ i < n ∧ i ≤ 2147483647) (hx : 0 ≤ x ∧ x < N) (hxs : ov_sh0 x = (5 + 7, nx))
    (kk : ∀ h' : ov_H, ov_BL a N e h0 z h' row (ov_rs rowe i x) → ov_R u d M (pc + 1) ls st z h' Q) : ov_R u d M pc ls (ov_r x :: ov_i i :: ov_r e :: st) z h Q := by
  have q := B.2.2.2.2.2
  exact ov_aasS hd ⟨by omega, by rw [B.1.1]; omega⟩ (by rw [B.1.2.2 e (by omega) (by omega)]; exact hs) hi ⟨hx.1, by rw [B.1.1]; exact hx.2⟩ (by rw [B.1.2.2 x hx.1 hx.2]; exact hxs) (kk _ (ov_BL_arr B he))
theorem ov_Bput {u : ov_U} {d : Nat} {M : ov_M} {pc : Nat} {ls : List (Nat × ov_V)} {st : List ov_V} {z : ov_Z} {h : ov_H} {Q : Option ov_V → ov_Z → ov_H → Prop} {a : Int} {N : Nat} {e : Int} {h0 : ov_H} {row rowe : Int → Int} {idx c k n : Nat} {x : Int} {v : ov_V} (B : ov_BL a N e h0 z h row rowe) (hd : decode M.2.1 pc = .ok (.putfield idx, 3)) (fl : ov_fl M.1.cls idx c k) (hs : ov_sh0 a = (5 + c, n)) (hv : ov_fw (ov_ft c k) x = v) (hok : ov_nk (ov_ft c k) x) (hfin : ((ov_cs c).2.1 k).2.2.2 = false)
    (kk : ∀ h' : ov_H, ov_BL a N e h0 z h' (ov_rs row k x) rowe → ov_R u d M (pc + 3) ls st z h' Q) : ov_R u d M pc ls (v :: ov_r a :: st) z h Q := by
  have q := B.2.2.2.2.2
  exact ov_putf hd fl ⟨q.1, by rw [B.1.1]; exact q.2.1⟩ (by rw [B.1.2.2 a q.1 q.2.1]; exact hs) hv hok hfin (kk _ (ov_BL_put B))
theorem ov_BputF {u : ov_U} {d : Nat} {M : ov_M} {pc : Nat} {ls : List (Nat × ov_V)} {st : List ov_V} {z : ov_Z} {h : ov_H} {Q : Option ov_V → ov_Z → ov_H → Prop} {a : Int} {N : Nat} {e : Int} {h0 : ov_H} {row rowe : Int → Int} {idx c k n : Nat} {x : Int} {v : ov_V} (B : ov_BL a N e h0 z h row rowe) (hd : decode M.2.1 pc = .ok (.putfield idx, 3)) (fl : ov_fl M.1.cls idx c k) (hs : ov_sh0 a = (5 + c, n)) (hv : ov_fw (ov_ft c k) x = v) (hok : ov_nk (ov_ft c k) x) (hfin : ((ov_cs c).2.1 k).2.2.2 = true) (hini : M.1.name = "<init>") (hdecl : ((ov_cs c).2.1 k).1 = M.1.cls)
    (kk : ∀ h' : ov_H, ov_BL a N e h0 z h' (ov_rs row k x) rowe → ov_R u d M (pc + 3) ls st z h' Q) : ov_R u d M pc ls (v :: ov_r a :: st) z h Q := by
  have q := B.2.2.2.2.2
  exact ov_putF hd fl ⟨q.1, by rw [B.1.1]; exact q.2.1⟩ (by rw [B.1.2.2 a q.1 q.2.1]; exact hs) hv hok hfin hini hdecl (kk _ (ov_BL_put B))
theorem ov_Bnew {u : ov_U} {d : Nat} {M : ov_M} {pc : Nat} {ls : List (Nat × ov_V)} {st : List ov_V} {z : ov_Z} {h : ov_H} {Q : Option ov_V → ov_Z → ov_H → Prop} {a : Int} {N : Nat} {e : Int} {h0 : ov_H} {row rowe : Int → Int} {idx c : Nat} {Ni : Int} (U : ov_cap u) (B : ov_BL a N e h0 z h row rowe) (hd : decode M.2.1 pc = .ok (.new idx, 3)) (nl : ov_nl M.1.cls idx c) (hN : (N : Int) = Ni) (hs : ov_sh0 Ni = (5 + c, ov_nf c)) (hg : ov_sgm (N + 1) = ov_sgm N + ov_nf c) (hb : N + 1 ≤ 600000 ∧ ov_sgm (N + 1) ≤ 7302250)
    (kk : ∀ (z' : ov_Z) (h' : ov_H), ov_SH (N + 1) z' → (∀ b : Int, b < N → h' b = h b) → h' Ni = ov_df c → ov_R u d M (pc + 3) ls (ov_r Ni :: st) z' h' Q) : ov_R u d M pc ls st z h Q := by
  refine ov_new hd nl (by rw [B.1.1, U.1]; exact hb.1) (by rw [B.1.2.1, U.2.1, ← hg]; exact hb.2) ?_
  rw [show ((z.1 : Nat) : Int) = Ni by rw [B.1.1]; exact hN]
  exact kk _ _ (ov_SH_n B.1 (by rw [hN]; exact hs) hg) (fun b hb => ov_nw_ne (by omega)) (ov_nw_eq rfl)

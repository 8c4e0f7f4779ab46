/-! the string constant of the tape, at place -3; its bytes at -5 -/
abbrev ov_tmS : Term := Term.string "OverFirst$Tape" 44
abbrev ov_tmB : Term := Term.field ov_tmS "java/lang/String" "value" "[B"
theorem ov_wS1 : (Jvm.Cond.stringRef "OverFirst$Tape" (44 : Nat) "()<=+-*;") ∈ lw_tbl := ov_ch2 (List.mem_of_getElem? (i := 98) (by decide +kernel))
theorem ov_wS2 : (Jvm.Cond.fieldLink "java/lang/String" (38 : Nat) "java/lang/String" "COMPACT_STRINGS" "Z") ∈ lw_tbl := ov_ch2 (List.mem_of_getElem? (i := 111) (by decide +kernel))
theorem ov_wS3 : (Jvm.Cond.laysStatic "java/lang/String" "COMPACT_STRINGS" "Z") ∈ lw_tbl := ov_ch2 (List.mem_of_getElem? (i := 112) (by decide +kernel))
theorem ov_wS4 : (Jvm.Cond.initialized "java/lang/String") ∈ lw_tbl := ov_ch0 (List.mem_of_getElem? (i := 15) (by decide +kernel))
theorem ov_wS5 : (Jvm.Cond.fieldLink "java/lang/String" (15 : Nat) "java/lang/String" "coder" "B") ∈ lw_tbl := ov_ch8 (List.mem_of_getElem? (i := 55) (by decide +kernel))
theorem ov_wS6 : (Jvm.Cond.fieldLink "java/lang/String" (9 : Nat) "java/lang/String" "value" "[B") ∈ lw_tbl := ov_ch8 (List.mem_of_getElem? (i := 56) (by decide +kernel))
theorem ov_ZC {u : ov_U} (hu : ov_Ok u) (S : ov_str u) : va_Z "java/lang/String" "COMPACT_STRINGS" "Z" (.int 1) (fun q => ov_B u ≤ q) (ov_s0 u) (ov_s0 u).heap := va_Zof (hu.1 _ ov_wS3) (hu.1 _ ov_wS4) (va_eqi (flat_of_before _ S.1 _ (by decide +kernel))) (fun a ha q => by unfold ov_B at q; omega)
theorem ov_FC {u : ov_U} (S : ov_str u) : va_OF "java/lang/String" "coder" "B" (.int 0) (u.2.2.2.2.2.1 (-3)) (fun q => ov_B u ≤ q) (ov_s0 u) (ov_s0 u).heap := vk_OFof S.2.2.1 (va_eqt (flat_of_before _ S.1 _ (by decide +kernel))) (fun a ha q => by unfold ov_B at q; omega)
theorem ov_FV {u : ov_U} (S : ov_str u) : va_OF "java/lang/String" "value" "[B" (.ref (u.2.2.2.2.2.1 (-5))) (u.2.2.2.2.2.1 (-3)) (fun q => ov_B u ≤ q) (ov_s0 u) (ov_s0 u).heap := vk_OFof S.2.2.1 S.2.2.2.1 (fun a ha q => by unfold ov_B at q; omega)
theorem ov_OS {u : ov_U} (S : ov_str u) : va_O "java/lang/String" (u.2.2.2.2.2.1 (-3)) (fun q => ov_B u ≤ q) (ov_s0 u) (ov_s0 u).heap := by
  obtain ⟨a, c, cA, kA, q1, q2, q3, q4, q5, q6, -⟩ := Cond.exactly_spec (args := u.2.2.1) (first := ov_s0 u) (o := none) (s := ov_s0 u) (idx := []) (t := ov_tmS) (cls := "java/lang/String") (flat_of_before _ S.1 _ (by decide +kernel))
  have e : some (Value.ref a) = some (.ref (u.2.2.2.2.2.1 (-3))) := q1.symm.trans S.2.2.1
  cases e
  exact ⟨cA, q3, q5, by rw [q6]; exact q2, (fun q => by have := (Array.getElem?_eq_some_iff.mp q3).1; unfold ov_B at q; omega)⟩
def ov_byt : List Int32 := [40, 41, 60, 61, 43, 45, 42, 59]
theorem ov_TB {u : ov_U} (S : ov_str u) : va_T .byte (u.2.2.2.2.2.1 (-5)) 8 (fun j => .int (ov_byt.getD j 0)) (fun q => ov_B u ≤ q) (ov_s0 u) (ov_s0 u).heap := by
  have hs := flat_of_before _ S.1
  have harr : (Cond.arrayOf ov_tmB .byte).before u.2.2.1 (ov_s0 u) = true := hs _ (by decide +kernel)
  have hlen : (Term.length ov_tmB).eval u.2.2.1 (ov_s0 u) none [] (ov_s0 u) = some (.int (Int32.ofNat 8)) := va_eqt (hs _ (by decide +kernel))
  obtain ⟨t, ht, T⟩ := va_Tof (tm := ov_tmB) (ty := .byte) (N := 8) (f := fun j => .int (ov_byt.getD j 0)) (A := fun q => ov_B u ≤ q) (by decide) harr hlen (fun j hj => by
    have q : j = 0 ∨ j = 1 ∨ j = 2 ∨ j = 3 ∨ j = 4 ∨ j = 5 ∨ j = 6 ∨ j = 7 := by omega
    rcases q with rfl | rfl | rfl | rfl | rfl | rfl | rfl | rfl
    · exact va_eqt (z := 40) (hs _ (by decide +kernel))
    · exact va_eqt (z := 41) (hs _ (by decide +kernel))
    · exact va_eqt (z := 60) (hs _ (by decide +kernel))
    · exact va_eqt (z := 61) (hs _ (by decide +kernel))
    · exact va_eqt (z := 43) (hs _ (by decide +kernel))
    · exact va_eqt (z := 45) (hs _ (by decide +kernel))
    · exact va_eqt (z := 42) (hs _ (by decide +kernel))
    · exact va_eqt (z := 59) (hs _ (by decide +kernel))) (fun a ha q => by unfold ov_B at q; omega)
  have e : some (Value.ref t) = some (.ref (u.2.2.2.2.2.1 (-5))) := ht.symm.trans S.2.2.2.1
  cases e
  exact T
theorem ov_ldcT {u : ov_U} {d : Nat} {M : ov_M} {pc : Nat} {ls : List (Nat × ov_V)} {st : List ov_V} {z : ov_Z} {h : ov_H} {Q : Option ov_V → ov_Z → ov_H → Prop} (hd : decode M.2.1 pc = .ok (.ldc 44, 2)) (hM : M.1.cls = "OverFirst$Tape") (S : ov_str u) (k : ov_R u d M (pc + 2) ls (ov_r (-3) :: st) z h Q) : ov_R u d M pc ls st z h Q := by
  intro hu p e s m args below meth c H locs cells slots lr n0 g0 C hRp hlocs hl
  have K := k hu p e s m args below meth c H locs cells slots lr n0 g0 C hRp hlocs hl
  obtain ⟨hx, hb, hml, hret, hown, hlk, hnm, hW0, hn0, hg0⟩ := C
  rw [hM] at hown
  simp only [List.map_cons] at K
  rw [ov_rvn u (by decide)] at K
  exact va_ldcS hx hb hown (vk_R.warm hW0 (vk_R.of (hu.1 _ ov_wS1) S.2.2.1)) hd K
theorem ov_gstC {u : ov_U} {d : Nat} {M : ov_M} {pc : Nat} {ls : List (Nat × ov_V)} {st : List ov_V} {z : ov_Z} {h : ov_H} {Q : Option ov_V → ov_Z → ov_H → Prop} (hd : decode M.2.1 pc = .ok (.getstatic 38, 3)) (hM : M.1.cls = "java/lang/String") (S : ov_str u) (k : ov_R u d M (pc + 3) ls (ov_i 1 :: st) z h Q) : ov_R u d M pc ls st z h Q := by
  intro hu p e s m args below meth c H locs cells slots lr n0 g0 C hRp hlocs hl
  have K := k hu p e s m args below meth c H locs cells slots lr n0 g0 C hRp hlocs hl
  obtain ⟨hx, hb, hml, hret, hown, hlk, hnm, hW0, hn0, hg0⟩ := C
  obtain ⟨cf, kf, fi, f, a, cell, h1, h2, h3, h4, h5, h6, h7, h8⟩ := ((ov_ZC hu S).moved hW0.alike).kept (H1 := H) (fun a ha _ => hRp.2.2.2.2.1 a ha)
  rw [hM] at hown
  simp only [List.map_cons] at K
  rw [show ov_tv u (ov_i 1) = .int 1 from rfl] at K
  exact W.gets hx hb hown (ov_word hu hW0 ov_wS2 rfl args) h1 h2 h3 h4 h5 (fun e => by rw [e] at h6; cases h6) h7 rfl hd K
theorem ov_gfC {u : ov_U} {d : Nat} {M : ov_M} {pc : Nat} {ls : List (Nat × ov_V)} {st : List ov_V} {z : ov_Z} {h : ov_H} {Q : Option ov_V → ov_Z → ov_H → Prop} (hd : decode M.2.1 pc = .ok (.getfield 15, 3)) (hM : M.1.cls = "java/lang/String") (S : ov_str u) (k : ov_R u d M (pc + 3) ls (ov_i 0 :: st) z h Q) : ov_R u d M pc ls (ov_r (-3) :: st) z h Q := by
  intro hu p e s m args below meth c H locs cells slots lr n0 g0 C hRp hlocs hl
  have K := k hu p e s m args below meth c H locs cells slots lr n0 g0 C hRp hlocs hl
  obtain ⟨hx, hb, hml, hret, hown, hlk, hnm, hW0, hn0, hg0⟩ := C
  obtain ⟨cf, kf, fi, f, cell, h1, h2, h3, h4, h5, h6⟩ := ((ov_FC S).moved hW0.alike).kept (H1 := H) (fun a ha _ => hRp.2.2.2.2.1 a ha)
  rw [hM] at hown
  simp only [List.map_cons] at K ⊢
  rw [show ov_tv u (ov_i 0) = .int 0 from rfl] at K
  rw [ov_rvn u (by decide)]
  exact W.getf hx hb hown (ov_word hu hW0 ov_wS5 rfl args) h1 h2 h3 h4 h5 rfl rfl hd K
theorem ov_gfV {u : ov_U} {d : Nat} {M : ov_M} {pc : Nat} {ls : List (Nat × ov_V)} {st : List ov_V} {z : ov_Z} {h : ov_H} {Q : Option ov_V → ov_Z → ov_H → Prop} (hd : decode M.2.1 pc = .ok (.getfield 9, 3)) (hM : M.1.cls = "java/lang/String") (S : ov_str u) (k : ov_R u d M (pc + 3) ls (ov_r (-5) :: st) z h Q) : ov_R u d M pc ls (ov_r (-3) :: st) z h Q := by
  intro hu p e s m args below meth c H locs cells slots lr n0 g0 C hRp hlocs hl
  have K := k hu p e s m args below meth c H locs cells slots lr n0 g0 C hRp hlocs hl
  obtain ⟨hx, hb, hml, hret, hown, hlk, hnm, hW0, hn0, hg0⟩ := C
  obtain ⟨cf, kf, fi, f, cell, h1, h2, h3, h4, h5, h6⟩ := ((ov_FV S).moved hW0.alike).kept (H1 := H) (fun a ha _ => hRp.2.2.2.2.1 a ha)
  rw [hM] at hown
  simp only [List.map_cons] at K ⊢
  rw [ov_rvn u (by decide)] at K
  rw [ov_rvn u (by decide)]
  exact W.getf hx hb hown (ov_word hu hW0 ov_wS6 rfl args) h1 h2 h3 h4 h5 rfl rfl hd K
theorem ov_alenB {u : ov_U} {d : Nat} {M : ov_M} {pc : Nat} {ls : List (Nat × ov_V)} {st : List ov_V} {z : ov_Z} {h : ov_H} {Q : Option ov_V → ov_Z → ov_H → Prop} (hd : decode M.2.1 pc = .ok (.arraylength, 1)) (S : ov_str u) (k : ov_R u d M (pc + 1) ls (ov_i 8 :: st) z h Q) : ov_R u d M pc ls (ov_r (-5) :: st) z h Q := by
  intro hu p e s m args below meth c H locs cells slots lr n0 g0 C hRp hlocs hl
  have K := k hu p e s m args below meth c H locs cells slots lr n0 g0 C hRp hlocs hl
  obtain ⟨hx, hb, hml, hret, hown, hlk, hnm, hW0, hn0, hg0⟩ := C
  obtain ⟨cell, h1, h2, h3, h4, h5, h6, h7⟩ := ((ov_TB S).moved hW0.alike).kept (H1 := H) (fun a ha _ => hRp.2.2.2.2.1 a ha)
  simp only [List.map_cons] at K ⊢
  rw [ov_rvn u (by decide)]
  exact W.alen (n := Int32.ofInt 8) hx hb h1 h2 h5 rfl rfl hd K
theorem ov_baldB {u : ov_U} {d : Nat} {M : ov_M} {pc : Nat} {ls : List (Nat × ov_V)} {st : List ov_V} {z : ov_Z} {h : ov_H} {Q : Option ov_V → ov_Z → ov_H → Prop} {i : Int} (hd : decode M.2.1 pc = .ok (.baload, 1)) (S : ov_str u) (hi : 0 ≤ i ∧ i < 8) (k : ∀ w : Int, ov_g w → ov_R u d M (pc + 1) ls (ov_i w :: st) z h Q) : ov_R u d M pc ls (ov_i i :: ov_r (-5) :: st) z h Q := by
  have k := k (ov_byt.getD i.toNat 0).toInt (ov_g32 _)
  intro hu p e s m args below meth c H locs cells slots lr n0 g0 C hRp hlocs hl
  have K := k hu p e s m args below meth c H locs cells slots lr n0 g0 C hRp hlocs hl
  obtain ⟨hx, hb, hml, hret, hown, hlk, hnm, hW0, hn0, hg0⟩ := C
  obtain ⟨cell, h1, h2, h3, h4, h5, h6, h7⟩ := ((ov_TB S).moved hW0.alike).kept (H1 := H) (fun a ha _ => hRp.2.2.2.2.1 a ha)
  simp only [List.map_cons] at K ⊢
  rw [ov_rvn u (by decide)]
  have e1 : (Int32.ofInt i).toNatClampNeg = i.toNat := ov_ix ⟨hi.1, by omega⟩
  refine W.bald (v := .int (ov_byt.getD i.toNat 0)) hx hb h1 h2 h3 ?_ ?_ rfl rfl hd ?_
  · intro q
    rcases q with q | q
    · exact ov_ixn (n := 8) ⟨hi.1, hi.2, by omega⟩ (Or.inl q)
    · rw [e1] at q
      omega
  · rw [e1]
    exact h6 _ (by omega)
  · rw [show ov_tv u (ov_i (ov_byt.getD i.toNat 0).toInt) = .int (ov_byt.getD i.toNat 0) by simp [ov_tv]] at K
    exact K
theorem ov_i2bT {u : ov_U} {d : Nat} {M : ov_M} {pc : Nat} {ls : List (Nat × ov_V)} {st : List ov_V} {z : ov_Z} {h : ov_H} {Q : Option ov_V → ov_Z → ov_H → Prop} {a : Int} (hd : decode M.2.1 pc = .ok (.i2b, 1)) (k : ∀ w : Int, ov_g w → ov_R u d M (pc + 1) ls (ov_i w :: st) z h Q) : ov_R u d M pc ls (ov_i a :: st) z h Q := by
  have k := k ((Int32.ofInt a).toInt8.toInt32).toInt (ov_g32 _)
  intro hu p e s m args below meth c H locs cells slots lr n0 g0 C hRp hlocs hl
  have K := k hu p e s m args below meth c H locs cells slots lr n0 g0 C hRp hlocs hl
  obtain ⟨hx, hb, hml, hret, hown, hlk, hnm, hW0, hn0, hg0⟩ := C
  simp only [List.map_cons] at K ⊢
  rw [show ov_tv u (ov_i ((Int32.ofInt a).toInt8.toInt32).toInt) = .int ((Int32.ofInt a).toInt8.toInt32) by show Value.int (Int32.ofInt _) = _; rw [Int32.ofInt_toInt]] at K
  exact lv_i2b hx hb hd rfl K
theorem ov_retB {u : ov_U} {d : Nat} {M : ov_M} {pc : Nat} {ls : List (Nat × ov_V)} {st : List ov_V} {z : ov_Z} {h : ov_H} {Q : Option ov_V → ov_Z → ov_H → Prop} {a : Int} (hd : decode M.2.1 pc = .ok (.ireturn, 1)) (hr : M.2.2.2 = some .byte) (ha : a = 0) (hQ : Q (some (ov_i a)) z h) : ov_R u d M pc ls [ov_i a] z h Q := by
  intro hu p e s m args below meth c H locs cells slots lr n0 g0 C hRp hlocs hl
  obtain ⟨hx, hb, hml, hret, hown, hlk, hnm, hW0, hn0, hg0⟩ := C
  refine ov_ti (fun q1 q2 => ?_)
  have r1 := hRp.1
  have r2 := hRp.2.1
  have r3 := hRp.2.2.1
  have r4 := hRp.2.2.2.1
  refine W.widen (k := ov_K u - n0) (n := ov_S u - g0) (by omega) (by omega) ?_
  exact W.zret hx hb (hret.trans hr) (by subst ha; rfl) (fun t ht hW => ⟨(some (ov_i a)), z, h, rfl, hQ, by rw [ht]; exact hRp, State.WarmedH.trans hW0 hW⟩) hlocs hd hlk
theorem ov_cVS {u : ov_U} {d : Nat} {M : ov_M} {pc : Nat} {ls : List (Nat × ov_V)} {st : List ov_V} {z : ov_Z} {h : ov_H} {Q : Option ov_V → ov_Z → ov_H → Prop} {d2 : Nat} {N : ov_M} {idx : Nat} {as st0 : List ov_V} {Q1 : Option ov_V → ov_Z → ov_H → Prop} (hd : decode M.2.1 pc = .ok (.invokevirtual idx, 3)) (lk : ov_lV M.1.cls idx N as.length) (hs : st0 = as.reverse ++ ov_r (-3) :: st) (hw : ov_wd st ≤ 8) (S : ov_str u) (hc : N.1.cls = "java/lang/String") (hdp : d2 + 1 ≤ d) (T : ov_T u d2 N (ov_r (-3) :: as) z h Q1)
    (kk : ∀ (r : Option ov_V) (z' : ov_Z) (h' : ov_H), Q1 r z' h' → ov_R u d M (pc + 3) ls (r.toList ++ st) z' h' Q) : ov_R u d M pc ls st0 z h Q := by
  intro hu p e s m args below meth c0 H locs cells slots lr n0 g0 C hRp hlocs hl
  have hC := C
  obtain ⟨hx, hb, hml, hret, hown, hlk, hnm, hW0, hn0, hg0⟩ := C
  obtain ⟨⟨w1, w2, hy, hpd, hmx⟩, wl⟩ := lk
  have r1 := hRp.1
  have r2 := hRp.2.1
  have r3 := hRp.2.2.1
  have r4 := hRp.2.2.2.1
  subst hs
  refine ov_ti (fun t1 t2 => ?_)
  have hws : ∀ w ∈ ov_ws N, ∀ (a' : Array Value) (U : State), s.WarmedH U.vm → w.before a' U = true := fun w hw a' U hWU => by
    rw [List.mem_singleton.mp hw]
    exact ov_word hu (State.WarmedH.trans hW0 hWU) w2 rfl a'
  have hnp := ov_ar hpd
  have hRd : (ov_rm u d2 z.1 z.2.1).frames + 1 ≤ (ov_rm u d n0 g0).frames ∧ 8 + (N.2.2.1 + 11) + (ov_rm u d2 z.1 z.2.1).locals ≤ (ov_rm u d n0 g0).locals := by
    show d2 + 1 ≤ d ∧ 8 + (N.2.2.1 + 11) + 40 * d2 ≤ 40 * d
    omega
  have hroom : H.size - s.heap.size + (ov_K u - z.1) ≤ (ov_rm u d n0 g0).cells ∧ ov_sum H - ov_sum s.heap + (ov_S u - z.2.1) ≤ (ov_rm u d n0 g0).slots := by
    show _ ≤ ov_K u - n0 ∧ _ ≤ ov_S u - g0
    omega
  have hwd : 2 * (F0 m pc lr ((as.reverse ++ ov_r (-3) :: st).map (ov_tv u))).monitorRoom + ((st.map (ov_tv u)).map fun v => v.category).sum ≤ 8 := by
    rw [ov_ctg]
    show 2 * 0 + _ ≤ 8
    omega
  have hblind := ov_blind u (ov_r (-3) :: as) z h
  obtain ⟨cell, q1, q2, q3, -⟩ := ((ov_OS S).moved hW0.alike).kept (H1 := H) (fun a ha _ => hRp.2.2.2.2.1 a ha)
  have er : ov_tv u (ov_r (-3)) = .ref (u.2.2.2.2.2.1 (-3)) := ov_rvn u (by decide)
  refine ov_aft (Q1 := Q1) hu hC hlocs hl (va_runV (b := u.2.2.2.2.2.1 (-3)) (C := N.1.cls) (As := as.map (ov_tv u)) (bytes := N.2.1) (maxL := N.2.2.1) (ret := N.2.2.2) ⟨hx, hb, hml, hown, fun w (hw : w ∈ ([] : List Cond)) => by cases hw⟩ (T hu) ⟨⟨rfl, rfl, hRd.1, hRd.2, hws, List.mem_singleton.mpr rfl, ov_word hu hW0 w2 rfl args, ov_word hu hW0 w1 rfl args, hy, hnp, ov_word hu hW0 wl.1 rfl args⟩, ov_word hu hW0 wl.2.1 rfl args, ov_word hu hW0 wl.2.2 rfl args⟩ ⟨hblind, ⟨cell, q1, q2, by rw [hc]; exact q3⟩, fun U hU hWU => ⟨by rw [List.map_cons, er], by rw [hU]; exact hRp, State.WarmedH.trans hW0 hWU⟩⟩ rfl (by simp) hl.1 ?_ hwd hd hroom) kk
  show (as.reverse ++ ov_r (-3) :: st).map (ov_tv u) = _
  rw [List.map_append, List.map_cons, er, List.map_reverse]
theorem lb_28 : ov_lB ov_m28 2 := ⟨ov_ch0 (List.mem_of_getElem? (i := 15) (by decide +kernel)), ov_ch2 (List.mem_of_getElem? (i := 106) (by decide +kernel)), ⟨by decide, by decide⟩, by decide +kernel, by decide⟩
theorem lk_String_633 : ov_lV "java/lang/String" 633 ov_m28 2 := ⟨lb_28, ov_ch2 (List.mem_of_getElem? (i := 103) (by decide +kernel)), ov_ch2 (List.mem_of_getElem? (i := 104) (by decide +kernel)), ov_ch2 (List.mem_of_getElem? (i := 105) (by decide +kernel))⟩
theorem lb_29 : ov_lB ov_m29 0 := ⟨ov_ch0 (List.mem_of_getElem? (i := 15) (by decide +kernel)), ov_ch2 (List.mem_of_getElem? (i := 110) (by decide +kernel)), ⟨by decide, by decide⟩, by decide +kernel, by decide⟩
theorem lk_String_492 : ov_lV "java/lang/String" 492 ov_m29 0 := ⟨lb_29, ov_ch2 (List.mem_of_getElem? (i := 107) (by decide +kernel)), ov_ch2 (List.mem_of_getElem? (i := 108) (by decide +kernel)), ov_ch2 (List.mem_of_getElem? (i := 109) (by decide +kernel))⟩
theorem lb_30 : ov_lB ov_m30 0 := ⟨ov_ch0 (List.mem_of_getElem? (i := 15) (by decide +kernel)), ov_ch2 (List.mem_of_getElem? (i := 116) (by decide +kernel)), ⟨by decide, by decide⟩, by decide +kernel, by decide⟩
theorem lk_String_505 : ov_lV "java/lang/String" 505 ov_m30 0 := ⟨lb_30, ov_ch2 (List.mem_of_getElem? (i := 113) (by decide +kernel)), ov_ch2 (List.mem_of_getElem? (i := 114) (by decide +kernel)), ov_ch2 (List.mem_of_getElem? (i := 115) (by decide +kernel))⟩
theorem lb_31 : ov_lB ov_m31 0 := ⟨ov_ch0 (List.mem_of_getElem? (i := 15) (by decide +kernel)), ov_ch2 (List.mem_of_getElem? (i := 120) (by decide +kernel)), ⟨by decide, by decide⟩, by decide +kernel, by decide⟩
theorem lk_String_335 : ov_lV "java/lang/String" 335 ov_m31 0 := ⟨lb_31, ov_ch2 (List.mem_of_getElem? (i := 117) (by decide +kernel)), ov_ch2 (List.mem_of_getElem? (i := 118) (by decide +kernel)), ov_ch2 (List.mem_of_getElem? (i := 119) (by decide +kernel))⟩
theorem lb_32 : ov_lB ov_m32 4 := ⟨ov_ch0 (List.mem_of_getElem? (i := 16) (by decide +kernel)), ov_ch2 (List.mem_of_getElem? (i := 123) (by decide +kernel)), ⟨by decide, by decide⟩, by decide +kernel, by decide⟩
theorem lk_String_637 : ov_lS "java/lang/String" 637 ov_m32 4 := ⟨lb_32, ov_ch2 (List.mem_of_getElem? (i := 121) (by decide +kernel)), ov_ch2 (List.mem_of_getElem? (i := 122) (by decide +kernel))⟩
theorem lb_33 : ov_lB ov_m33 1 := ⟨ov_ch0 (List.mem_of_getElem? (i := 16) (by decide +kernel)), ov_ch2 (List.mem_of_getElem? (i := 126) (by decide +kernel)), ⟨by decide, by decide⟩, by decide +kernel, by decide⟩
theorem lk_StringLatin1_88 : ov_lS "java/lang/StringLatin1" 88 ov_m33 1 := ⟨lb_33, ov_ch2 (List.mem_of_getElem? (i := 124) (by decide +kernel)), ov_ch2 (List.mem_of_getElem? (i := 125) (by decide +kernel))⟩
theorem lk_StringLatin1_92 : ov_lS "java/lang/StringLatin1" 92 ov_m34 2 := ⟨lb_34, ov_ch2 (List.mem_of_getElem? (i := 127) (by decide +kernel)), ov_ch2 (List.mem_of_getElem? (i := 128) (by decide +kernel))⟩
theorem lk_StringLatin1_38 : ov_lS "java/lang/StringLatin1" 38 ov_m35 2 := ⟨lb_35, ov_ch2 (List.mem_of_getElem? (i := 130) (by decide +kernel)), ov_ch2 (List.mem_of_getElem? (i := 131) (by decide +kernel))⟩
theorem lb_36 : ov_lB ov_m36 4 := ⟨ov_ch0 (List.mem_of_getElem? (i := 16) (by decide +kernel)), ov_ch2 (List.mem_of_getElem? (i := 135) (by decide +kernel)), ⟨by decide, by decide⟩, by decide +kernel, by decide⟩
theorem lk_StringLatin1_95 : ov_lS "java/lang/StringLatin1" 95 ov_m36 4 := ⟨lb_36, ov_ch2 (List.mem_of_getElem? (i := 133) (by decide +kernel)), ov_ch2 (List.mem_of_getElem? (i := 134) (by decide +kernel))⟩
theorem pf_27 : plainFor ov_m27.1 = true := by decide +kernel
theorem pf_28 : plainFor ov_m28.1 = true := by decide +kernel
theorem pf_29 : plainFor ov_m29.1 = true := by decide +kernel
theorem pf_30 : plainFor ov_m30.1 = true := by decide +kernel
theorem pf_31 : plainFor ov_m31.1 = true := by decide +kernel
theorem pf_32 : plainFor ov_m32.1 = true := by decide +kernel
theorem pf_33 : plainFor ov_m33.1 = true := by decide +kernel
theorem pf_36 : plainFor ov_m36.1 = true := by decide +kernel
theorem d_31_0 : decode ov_m31.2.1 0 = .ok (.getstatic 38, 3) := by decide +kernel
theorem d_31_3 : decode ov_m31.2.1 3 = .ok (.ifCond .eq 10, 3) := by decide +kernel
theorem b_31_6_1 : ov_ds ov_m31.2.1 6 [.aload_n 0] = true := by decide +kernel
theorem d_31_7 : decode ov_m31.2.1 7 = .ok (.getfield 15, 3) := by decide +kernel
theorem d_31_10 : decode ov_m31.2.1 10 = .ok (.goto 4, 3) := by decide +kernel
theorem d_31_14 : decode ov_m31.2.1 14 = .ok (.ireturn, 1) := by decide +kernel
theorem d_29_0 : decode ov_m29.2.1 0 = .ok (.getstatic 38, 3) := by decide +kernel
theorem d_29_3 : decode ov_m29.2.1 3 = .ok (.ifCond .eq 14, 3) := by decide +kernel
theorem b_29_6_1 : ov_ds ov_m29.2.1 6 [.aload_n 0] = true := by decide +kernel
theorem d_29_7 : decode ov_m29.2.1 7 = .ok (.getfield 15, 3) := by decide +kernel
theorem d_29_10 : decode ov_m29.2.1 10 = .ok (.ifCond .ne 7, 3) := by decide +kernel
theorem b_29_13_1 : ov_ds ov_m29.2.1 13 [.iconst 1] = true := by decide +kernel
theorem d_29_14 : decode ov_m29.2.1 14 = .ok (.goto 4, 3) := by decide +kernel
theorem d_29_18 : decode ov_m29.2.1 18 = .ok (.ireturn, 1) := by decide +kernel
theorem b_30_0_1 : ov_ds ov_m30.2.1 0 [.aload_n 0] = true := by decide +kernel
theorem d_30_1 : decode ov_m30.2.1 1 = .ok (.getfield 9, 3) := by decide +kernel
theorem d_30_4 : decode ov_m30.2.1 4 = .ok (.arraylength, 1) := by decide +kernel
theorem b_30_5_1 : ov_ds ov_m30.2.1 5 [.aload_n 0] = true := by decide +kernel
theorem d_30_6 : decode ov_m30.2.1 6 = .ok (.invokevirtual 335, 3) := by decide +kernel
theorem b_30_9_1 : ov_ds ov_m30.2.1 9 [.ishr] = true := by decide +kernel
theorem d_30_10 : decode ov_m30.2.1 10 = .ok (.ireturn, 1) := by decide +kernel
theorem b_33_0_1 : ov_ds ov_m33.2.1 0 [.iload_n 0] = true := by decide +kernel
theorem d_33_1 : decode ov_m33.2.1 1 = .ok (.ifCond .lt 14, 3) := by decide +kernel
theorem b_33_15_1 : ov_ds ov_m33.2.1 15 [.iconst 0] = true := by decide +kernel
theorem d_33_16 : decode ov_m33.2.1 16 = .ok (.ireturn, 1) := by decide +kernel
theorem b_33_4_2 : ov_ds ov_m33.2.1 4 [.iload_n 0, .sipush 255] = true := by decide +kernel
theorem d_33_8 : decode ov_m33.2.1 8 = .ok (.if_icmp .gt 7, 3) := by decide +kernel
theorem b_33_11_1 : ov_ds ov_m33.2.1 11 [.iconst 1] = true := by decide +kernel
theorem d_33_12 : decode ov_m33.2.1 12 = .ok (.goto 4, 3) := by decide +kernel
theorem b_36_0_1 : ov_ds ov_m36.2.1 0 [.iload_n 1] = true := by decide +kernel
theorem d_36_1 : decode ov_m36.2.1 1 = .ok (.i2b, 1) := by decide +kernel
theorem b_36_2_3 : ov_ds ov_m36.2.1 2 [.istore 4, .iload_n 2, .istore 5] = true := by decide +kernel
theorem b_36_7_2 : ov_ds ov_m36.2.1 7 [.iload 5, .iload_n 3] = true := by decide +kernel
theorem d_36_10 : decode ov_m36.2.1 10 = .ok (.if_icmp .ge 21, 3) := by decide +kernel
theorem b_36_31_1 : ov_ds ov_m36.2.1 31 [.iconst (-1)] = true := by decide +kernel
theorem d_36_32 : decode ov_m36.2.1 32 = .ok (.ireturn, 1) := by decide +kernel
theorem b_36_13_2 : ov_ds ov_m36.2.1 13 [.aload_n 0, .iload 5] = true := by decide +kernel
theorem d_36_16 : decode ov_m36.2.1 16 = .ok (.baload, 1) := by decide +kernel
theorem b_36_17_1 : ov_ds ov_m36.2.1 17 [.iload 4] = true := by decide +kernel
theorem d_36_19 : decode ov_m36.2.1 19 = .ok (.if_icmp .ne 6, 3) := by decide +kernel
theorem b_36_25_1 : ov_ds ov_m36.2.1 25 [.iinc 5 1] = true := by decide +kernel
theorem d_36_28 : decode ov_m36.2.1 28 = .ok (.goto (-21), 3) := by decide +kernel
theorem b_36_22_1 : ov_ds ov_m36.2.1 22 [.iload 5] = true := by decide +kernel
theorem d_36_24 : decode ov_m36.2.1 24 = .ok (.ireturn, 1) := by decide +kernel
theorem b_32_0_1 : ov_ds ov_m32.2.1 0 [.iload_n 1] = true := by decide +kernel
theorem d_32_1 : decode ov_m32.2.1 1 = .ok (.invokestatic 88, 3) := by decide +kernel
theorem d_32_4 : decode ov_m32.2.1 4 = .ok (.ifCond .ne 5, 3) := by decide +kernel
theorem b_32_9_2 : ov_ds ov_m32.2.1 9 [.iload_n 2, .iconst 0] = true := by decide +kernel
theorem d_32_11 : decode ov_m32.2.1 11 = .ok (.invokestatic 92, 3) := by decide +kernel
theorem b_32_14_3 : ov_ds ov_m32.2.1 14 [.istore_n 2, .iload_n 3, .aload_n 0] = true := by decide +kernel
theorem d_32_17 : decode ov_m32.2.1 17 = .ok (.arraylength, 1) := by decide +kernel
theorem d_32_18 : decode ov_m32.2.1 18 = .ok (.invokestatic 38, 3) := by decide +kernel
theorem b_32_21_3 : ov_ds ov_m32.2.1 21 [.istore_n 3, .iload_n 2, .iload_n 3] = true := by decide +kernel
theorem d_32_24 : decode ov_m32.2.1 24 = .ok (.if_icmp .lt 5, 3) := by decide +kernel
theorem b_32_29_4 : ov_ds ov_m32.2.1 29 [.aload_n 0, .iload_n 1, .iload_n 2, .iload_n 3] = true := by decide +kernel
theorem d_32_33 : decode ov_m32.2.1 33 = .ok (.invokestatic 95, 3) := by decide +kernel
theorem d_32_36 : decode ov_m32.2.1 36 = .ok (.ireturn, 1) := by decide +kernel
theorem b_32_27_1 : ov_ds ov_m32.2.1 27 [.iconst (-1)] = true := by decide +kernel
theorem d_32_28 : decode ov_m32.2.1 28 = .ok (.ireturn, 1) := by decide +kernel
theorem b_32_7_1 : ov_ds ov_m32.2.1 7 [.iconst (-1)] = true := by decide +kernel
theorem d_32_8 : decode ov_m32.2.1 8 = .ok (.ireturn, 1) := by decide +kernel
theorem b_28_0_1 : ov_ds ov_m28.2.1 0 [.aload_n 0] = true := by decide +kernel
theorem d_28_1 : decode ov_m28.2.1 1 = .ok (.invokevirtual 492, 3) := by decide +kernel
theorem d_28_4 : decode ov_m28.2.1 4 = .ok (.ifCond .eq 19, 3) := by decide +kernel
theorem b_28_7_1 : ov_ds ov_m28.2.1 7 [.aload_n 0] = true := by decide +kernel
theorem d_28_8 : decode ov_m28.2.1 8 = .ok (.getfield 9, 3) := by decide +kernel
theorem b_28_11_3 : ov_ds ov_m28.2.1 11 [.iload_n 1, .iload_n 2, .aload_n 0] = true := by decide +kernel
theorem d_28_14 : decode ov_m28.2.1 14 = .ok (.invokevirtual 505, 3) := by decide +kernel
theorem d_28_17 : decode ov_m28.2.1 17 = .ok (.invokestatic 637, 3) := by decide +kernel
theorem d_28_20 : decode ov_m28.2.1 20 = .ok (.goto 16, 3) := by decide +kernel
theorem d_28_36 : decode ov_m28.2.1 36 = .ok (.ireturn, 1) := by decide +kernel
theorem b_27_0_3 : ov_ds ov_m27.2.1 0 [.aload_n 0, .iload_n 1, .iconst 0] = true := by decide +kernel
theorem d_27_3 : decode ov_m27.2.1 3 = .ok (.invokevirtual 633, 3) := by decide +kernel
theorem d_27_6 : decode ov_m27.2.1 6 = .ok (.ireturn, 1) := by decide +kernel
abbrev P_String_coder_m3 (F : ov_H) (z : ov_Z) (h : ov_H)  : Option ov_V → ov_Z → ov_H → Prop := fun r0 z' h' => ∃ r : Int, r0 = some (ov_i r) ∧ z = z' ∧ h = h' ∧ (r = 0)
set_option maxHeartbeats 4000000 in
theorem c_String_coder_m3 {u : ov_U} {F : ov_H} {z : ov_Z} {h : ov_H} (d : Nat) (hd : 0 ≤ d) (U : ov_cap u) (I : ov_I F z h) : ov_T u d ov_m31 [ov_r (-3)] z h (P_String_coder_m3 F z h) := by
  refine ov_enF pf_31 (Nat.le_of_ble_eq_true rfl) ?_
  show ov_R u d ov_m31 0 [(0, ov_r (-3))] [] z h (P_String_coder_m3 F z h)
  refine ov_gstC d_31_0 rfl U.2.2 ?_
  refine ov_ifeq (tgt := 13) d_31_3 (by decide) (by omega) (fun c1 => ?_) (fun c1 => ?_)
  · omega
  · skip
    refine ov_blk (ls2 := [(0, ov_r (-3))]) (st2 := [ov_r (-3)]) (pc2 := 7) b_31_6_1 rfl rfl ?_
    refine ov_gfC d_31_7 rfl U.2.2 ?_
    refine ov_goto (tgt := 14) d_31_10 (by decide) ?_
    exact ov_retB (st := []) d_31_14 rfl (by omega) ⟨_, rfl, rfl, rfl, (by show 0 = 0; omega)⟩
abbrev P_String_isLatin1_m3 (F : ov_H) (z : ov_Z) (h : ov_H)  : Option ov_V → ov_Z → ov_H → Prop := fun r0 z' h' => ∃ r : Int, r0 = some (ov_i r) ∧ z = z' ∧ h = h' ∧ (r = 1)
set_option maxHeartbeats 4000000 in
theorem c_String_isLatin1_m3 {u : ov_U} {F : ov_H} {z : ov_Z} {h : ov_H} (d : Nat) (hd : 0 ≤ d) (U : ov_cap u) (I : ov_I F z h) : ov_T u d ov_m29 [ov_r (-3)] z h (P_String_isLatin1_m3 F z h) := by
  refine ov_enF pf_29 (Nat.le_of_ble_eq_true rfl) ?_
  show ov_R u d ov_m29 0 [(0, ov_r (-3))] [] z h (P_String_isLatin1_m3 F z h)
  refine ov_gstC d_29_0 rfl U.2.2 ?_
  refine ov_ifeq (tgt := 17) d_29_3 (by decide) (by omega) (fun c1 => ?_) (fun c1 => ?_)
  · omega
  · skip
    refine ov_blk (ls2 := [(0, ov_r (-3))]) (st2 := [ov_r (-3)]) (pc2 := 7) b_29_6_1 rfl rfl ?_
    refine ov_gfC d_29_7 rfl U.2.2 ?_
    refine ov_ifne (tgt := 17) d_29_10 (by decide) (by omega) (fun c2 => ?_) (fun c2 => ?_)
    · omega
    · skip
      refine ov_blk (ls2 := [(0, ov_r (-3))]) (st2 := [ov_i 1]) (pc2 := 14) b_29_13_1 rfl rfl ?_
      refine ov_goto (tgt := 18) d_29_14 (by decide) ?_
      exact ov_retz (st := []) d_29_18 rfl (by omega) ⟨_, rfl, rfl, rfl, (by show 1 = 1; omega)⟩
abbrev P_String_length_m3 (F : ov_H) (z : ov_Z) (h : ov_H)  : Option ov_V → ov_Z → ov_H → Prop := fun r0 z' h' => ∃ r : Int, r0 = some (ov_i r) ∧ z = z' ∧ h = h' ∧ (r = 8)
set_option maxHeartbeats 4000000 in
theorem c_String_length_m3 {u : ov_U} {F : ov_H} {z : ov_Z} {h : ov_H} (d : Nat) (hd : 1 ≤ d) (U : ov_cap u) (I : ov_I F z h) : ov_T u d ov_m30 [ov_r (-3)] z h (P_String_length_m3 F z h) := by
  refine ov_enF pf_30 (Nat.le_of_ble_eq_true rfl) ?_
  show ov_R u d ov_m30 0 [(0, ov_r (-3))] [] z h (P_String_length_m3 F z h)
  refine ov_blk (ls2 := [(0, ov_r (-3))]) (st2 := [ov_r (-3)]) (pc2 := 1) b_30_0_1 rfl rfl ?_
  refine ov_gfV d_30_1 rfl U.2.2 ?_
  refine ov_alenB d_30_4 U.2.2 ?_
  refine ov_blk (ls2 := [(0, ov_r (-3))]) (st2 := [ov_r (-3), ov_i 8]) (pc2 := 6) b_30_5_1 rfl rfl ?_
  refine ov_cVS (as := []) (st := [ov_i 8]) (d2 := d - 1) d_30_6 lk_String_335 rfl (Nat.le_of_ble_eq_true rfl) U.2.2 rfl (by omega) (c_String_coder_m3 (d - 1) (by omega) U I) ?_
  rintro _ _ _ ⟨v2, rfl, rfl, rfl, f1⟩
  show ov_R u d ov_m30 9 [(0, ov_r (-3))] [ov_i v2, ov_i 8] z h (P_String_length_m3 F z h)
  have f3 : v2 = 0 := f1
  clear f1
  have h8 : ov_shr 8 v2 = 8 := by rw [show v2 = 0 by omega]; decide +kernel
  refine ov_blk (ls2 := [(0, ov_r (-3))]) (st2 := [ov_i (ov_shr 8 v2)]) (pc2 := 10) b_30_9_1 rfl rfl ?_
  have g4 := ov_shrg 8 v2
  exact ov_reti (st := []) d_30_10 rfl ⟨_, rfl, rfl, rfl, (by show (ov_shr 8 v2) = 8; omega)⟩
abbrev P_L1_canEncode (F : ov_H) (z : ov_Z) (h : ov_H) (ce : Int) : Option ov_V → ov_Z → ov_H → Prop := fun r0 z' h' => ∃ r : Int, r0 = some (ov_i r) ∧ z = z' ∧ h = h' ∧ ((r = 0 ∨ r = 1))
set_option maxHeartbeats 4000000 in
theorem c_L1_canEncode {u : ov_U} {F : ov_H} {z : ov_Z} {h : ov_H} (d : Nat) (hd : 0 ≤ d) (U : ov_cap u) (I : ov_I F z h) (ce : Int) (g_ce : ov_g ce) : ov_T u d ov_m33 [ov_i ce] z h (P_L1_canEncode F z h ce) := by
  refine ov_enF pf_33 (Nat.le_of_ble_eq_true rfl) ?_
  show ov_R u d ov_m33 0 [(0, ov_i ce)] [] z h (P_L1_canEncode F z h ce)
  refine ov_blk (ls2 := [(0, ov_i ce)]) (st2 := [ov_i ce]) (pc2 := 1) b_33_0_1 rfl rfl ?_
  refine ov_iflt (tgt := 15) d_33_1 (by decide) (by omega) (fun c1 => ?_) (fun c1 => ?_)
  · skip
    refine ov_blk (ls2 := [(0, ov_i ce)]) (st2 := [ov_i 0]) (pc2 := 16) b_33_15_1 rfl rfl ?_
    exact ov_retz (st := []) d_33_16 rfl (by omega) ⟨_, rfl, rfl, rfl, (by show (0 = 0 ∨ 0 = 1); omega)⟩
  · skip
    refine ov_blk (ls2 := [(0, ov_i ce)]) (st2 := [ov_i 255, ov_i ce]) (pc2 := 8) b_33_4_2 rfl rfl ?_
    refine ov_icgt (tgt := 15) d_33_8 (by decide) (by omega) (by omega) (fun c2 => ?_) (fun c2 => ?_)
    · skip
      refine ov_blk (ls2 := [(0, ov_i ce)]) (st2 := [ov_i 0]) (pc2 := 16) b_33_15_1 rfl rfl ?_
      exact ov_retz (st := []) d_33_16 rfl (by omega) ⟨_, rfl, rfl, rfl, (by show (0 = 0 ∨ 0 = 1); omega)⟩
    · skip
      refine ov_blk (ls2 := [(0, ov_i ce)]) (st2 := [ov_i 1]) (pc2 := 12) b_33_11_1 rfl rfl ?_
      refine ov_goto (tgt := 16) d_33_12 (by decide) ?_
      exact ov_retz (st := []) d_33_16 rfl (by omega) ⟨_, rfl, rfl, rfl, (by show (1 = 0 ∨ 1 = 1); omega)⟩
abbrev P_L1_indexOfChar_m5 (F : ov_H) (z : ov_Z) (h : ov_H) (cq : Int) (fq : Int) (mq : Int) : Option ov_V → ov_Z → ov_H → Prop := fun r0 z' h' => ∃ r : Int, r0 = some (ov_i r) ∧ z = z' ∧ h = h' ∧ (-1 ≤ r ∧ r ≤ 8)
set_option maxHeartbeats 4000000 in
theorem c_L1_indexOfChar_m5 {u : ov_U} {F : ov_H} {z : ov_Z} {h : ov_H} (d : Nat) (hd : 0 ≤ d) (U : ov_cap u) (I : ov_I F z h) (cq : Int) (fq : Int) (mq : Int) (g_cq : ov_g cq) (g_fq : ov_g fq) (g_mq : ov_g mq) (p0 : 0 ≤ fq ∧ fq ≤ 8) (p1 : mq ≤ 8) : ov_T u d ov_m36 [ov_r (-5), ov_i cq, ov_i fq, ov_i mq] z h (P_L1_indexOfChar_m5 F z h cq fq mq) := by
  refine ov_enF pf_36 (Nat.le_of_ble_eq_true rfl) ?_
  show ov_R u d ov_m36 0 [(0, ov_r (-5)), (1, ov_i cq), (2, ov_i fq), (3, ov_i mq)] [] z h (P_L1_indexOfChar_m5 F z h cq fq mq)
  refine ov_blk (ls2 := [(0, ov_r (-5)), (1, ov_i cq), (2, ov_i fq), (3, ov_i mq)]) (st2 := [ov_i cq]) (pc2 := 1) b_36_0_1 rfl rfl ?_
  refine ov_i2bT d_36_1 (fun w1 gw1 => ?_)
  refine ov_blk (ls2 := [(0, ov_r (-5)), (1, ov_i cq), (2, ov_i fq), (3, ov_i mq), (4, ov_i w1), (5, ov_i fq)]) (st2 := []) (pc2 := 7) b_36_2_3 rfl rfl ?_
  have L5 : ∀ (n2 : Nat) (x5 : Int) (q4 : 0 ≤ x5 ∧ x5 ≤ 8), 8 - x5 < (n2 : Int) → ov_R u d ov_m36 7 [(0, ov_r (-5)), (1, ov_i cq), (2, ov_i fq), (3, ov_i mq), (4, ov_i w1), (5, ov_i x5)] [] z h (P_L1_indexOfChar_m5 F z h cq fq mq) := by
    intro n2
    induction n2 with
    | zero =>
      intro x5 q4 hn6
      exact absurd hn6 (by omega)
    | succ n2 ih3 =>
      intro x5 q4 hn6
      refine ov_blk (ls2 := [(0, ov_r (-5)), (1, ov_i cq), (2, ov_i fq), (3, ov_i mq), (4, ov_i w1), (5, ov_i x5)]) (st2 := [ov_i mq, ov_i x5]) (pc2 := 10) b_36_7_2 rfl rfl ?_
      refine ov_icge (tgt := 31) d_36_10 (by decide) (by omega) (by omega) (fun c7 => ?_) (fun c7 => ?_)
      · skip
        refine ov_blk (ls2 := [(0, ov_r (-5)), (1, ov_i cq), (2, ov_i fq), (3, ov_i mq), (4, ov_i w1), (5, ov_i x5)]) (st2 := [ov_i (-1)]) (pc2 := 32) b_36_31_1 rfl rfl ?_
        exact ov_reti (st := []) d_36_32 rfl ⟨_, rfl, rfl, rfl, (by show -1 ≤ (-1) ∧ (-1) ≤ 8; omega)⟩
      · skip
        refine ov_blk (ls2 := [(0, ov_r (-5)), (1, ov_i cq), (2, ov_i fq), (3, ov_i mq), (4, ov_i w1), (5, ov_i x5)]) (st2 := [ov_i x5, ov_r (-5)]) (pc2 := 16) b_36_13_2 rfl rfl ?_
        refine ov_baldB d_36_16 U.2.2 (by omega) (fun w8 gw8 => ?_)
        refine ov_blk (ls2 := [(0, ov_r (-5)), (1, ov_i cq), (2, ov_i fq), (3, ov_i mq), (4, ov_i w1), (5, ov_i x5)]) (st2 := [ov_i w1, ov_i w8]) (pc2 := 19) b_36_17_1 rfl rfl ?_
        refine ov_icne (tgt := 25) d_36_19 (by decide) (by omega) (by omega) (fun c9 => ?_) (fun c9 => ?_)
        · skip
          refine ov_blk (ls2 := [(0, ov_r (-5)), (1, ov_i cq), (2, ov_i fq), (3, ov_i mq), (4, ov_i w1), (5, ov_i (x5 + 1))]) (st2 := []) (pc2 := 28) b_36_25_1 rfl rfl ?_
          refine ov_goto (tgt := 7) d_36_28 (by decide) ?_
          exact ih3 (x5 + 1) (by show 0 ≤ (x5 + 1) ∧ (x5 + 1) ≤ 8; omega) (by omega)
        · skip
          refine ov_blk (ls2 := [(0, ov_r (-5)), (1, ov_i cq), (2, ov_i fq), (3, ov_i mq), (4, ov_i w1), (5, ov_i x5)]) (st2 := [ov_i x5]) (pc2 := 24) b_36_22_1 rfl rfl ?_
          exact ov_reti (st := []) d_36_24 rfl ⟨_, rfl, rfl, rfl, (by show -1 ≤ x5 ∧ x5 ≤ 8; omega)⟩
  exact L5 9 fq (by show 0 ≤ fq ∧ fq ≤ 8; omega) (by omega)
abbrev P_L1_indexOf_m5 (F : ov_H) (z : ov_Z) (h : ov_H) (ch : Int) (fr : Int) (mx : Int) : Option ov_V → ov_Z → ov_H → Prop := fun r0 z' h' => ∃ r : Int, r0 = some (ov_i r) ∧ z = z' ∧ h = h' ∧ (-1 ≤ r ∧ r ≤ 8)
set_option maxHeartbeats 4000000 in
theorem c_L1_indexOf_m5 {u : ov_U} {F : ov_H} {z : ov_Z} {h : ov_H} (d : Nat) (hd : 1 ≤ d) (U : ov_cap u) (I : ov_I F z h) (ch : Int) (fr : Int) (mx : Int) (g_ch : ov_g ch) (g_fr : ov_g fr) (g_mx : ov_g mx) (p0 : fr = 0) (p1 : mx = 8) : ov_T u d ov_m32 [ov_r (-5), ov_i ch, ov_i fr, ov_i mx] z h (P_L1_indexOf_m5 F z h ch fr mx) := by
  refine ov_enF pf_32 (Nat.le_of_ble_eq_true rfl) ?_
  show ov_R u d ov_m32 0 [(0, ov_r (-5)), (1, ov_i ch), (2, ov_i fr), (3, ov_i mx)] [] z h (P_L1_indexOf_m5 F z h ch fr mx)
  refine ov_blk (ls2 := [(0, ov_r (-5)), (1, ov_i ch), (2, ov_i fr), (3, ov_i mx)]) (st2 := [ov_i ch]) (pc2 := 1) b_32_0_1 rfl rfl ?_
  refine ov_cS (as := [ov_i ch]) (st := []) (d2 := d - 1) d_32_1 lk_StringLatin1_88 rfl (Nat.le_of_ble_eq_true rfl) (by omega) (c_L1_canEncode (d - 1) (by omega) U I ch (by omega)) ?_
  rintro _ _ _ ⟨v2, rfl, rfl, rfl, f1⟩
  show ov_R u d ov_m32 4 [(0, ov_r (-5)), (1, ov_i ch), (2, ov_i fr), (3, ov_i mx)] [ov_i v2] z h (P_L1_indexOf_m5 F z h ch fr mx)
  have f3 : (v2 = 0 ∨ v2 = 1) := f1
  clear f1
  refine ov_ifne (tgt := 9) d_32_4 (by decide) (by omega) (fun c4 => ?_) (fun c4 => ?_)
  · skip
    refine ov_blk (ls2 := [(0, ov_r (-5)), (1, ov_i ch), (2, ov_i fr), (3, ov_i mx)]) (st2 := [ov_i 0, ov_i fr]) (pc2 := 11) b_32_9_2 rfl rfl ?_
    refine ov_cS (as := [ov_i fr, ov_i 0]) (st := []) (d2 := d - 1) d_32_11 lk_StringLatin1_92 rfl (Nat.le_of_ble_eq_true rfl) (by omega) (c_Math_max (d - 1) (by omega) U I fr 0 (by omega) (by omega)) ?_
    rintro _ _ _ ⟨v6, rfl, rfl, rfl, f5⟩
    show ov_R u d ov_m32 14 [(0, ov_r (-5)), (1, ov_i ch), (2, ov_i fr), (3, ov_i mx)] [ov_i v6] z h (P_L1_indexOf_m5 F z h ch fr mx)
    have f7 : fr ≤ v6 ∧ (0 : Int) ≤ v6 ∧ (v6 = fr ∨ v6 = (0 : Int)) := f5
    clear f5
    refine ov_blk (ls2 := [(0, ov_r (-5)), (1, ov_i ch), (2, ov_i v6), (3, ov_i mx)]) (st2 := [ov_r (-5), ov_i mx]) (pc2 := 17) b_32_14_3 rfl rfl ?_
    refine ov_alenB d_32_17 U.2.2 ?_
    refine ov_cS (as := [ov_i mx, ov_i 8]) (st := []) (d2 := d - 1) d_32_18 lk_StringLatin1_38 rfl (Nat.le_of_ble_eq_true rfl) (by omega) (c_Math_min (d - 1) (by omega) U I mx 8 (by omega) (by omega)) ?_
    rintro _ _ _ ⟨v9, rfl, rfl, rfl, f8⟩
    show ov_R u d ov_m32 21 [(0, ov_r (-5)), (1, ov_i ch), (2, ov_i v6), (3, ov_i mx)] [ov_i v9] z h (P_L1_indexOf_m5 F z h ch fr mx)
    have f10 : v9 ≤ mx ∧ v9 ≤ (8 : Int) ∧ (v9 = mx ∨ v9 = (8 : Int)) := f8
    clear f8
    refine ov_blk (ls2 := [(0, ov_r (-5)), (1, ov_i ch), (2, ov_i v6), (3, ov_i v9)]) (st2 := [ov_i v9, ov_i v6]) (pc2 := 24) b_32_21_3 rfl rfl ?_
    refine ov_iclt (tgt := 29) d_32_24 (by decide) (by omega) (by omega) (fun c11 => ?_) (fun c11 => ?_)
    · skip
      refine ov_blk (ls2 := [(0, ov_r (-5)), (1, ov_i ch), (2, ov_i v6), (3, ov_i v9)]) (st2 := [ov_i v9, ov_i v6, ov_i ch, ov_r (-5)]) (pc2 := 33) b_32_29_4 rfl rfl ?_
      refine ov_cS (as := [ov_r (-5), ov_i ch, ov_i v6, ov_i v9]) (st := []) (d2 := d - 1) d_32_33 lk_StringLatin1_95 rfl (Nat.le_of_ble_eq_true rfl) (by omega) (c_L1_indexOfChar_m5 (d - 1) (by omega) U I ch v6 v9 (by omega) (by omega) (by omega) (by omega) (by omega)) ?_
      rintro _ _ _ ⟨v13, rfl, rfl, rfl, f12⟩
      show ov_R u d ov_m32 36 [(0, ov_r (-5)), (1, ov_i ch), (2, ov_i v6), (3, ov_i v9)] [ov_i v13] z h (P_L1_indexOf_m5 F z h ch fr mx)
      have f14 : -1 ≤ v13 ∧ v13 ≤ 8 := f12
      clear f12
      exact ov_reti (st := []) d_32_36 rfl ⟨_, rfl, rfl, rfl, (by show -1 ≤ v13 ∧ v13 ≤ 8; omega)⟩
    · skip
      refine ov_blk (ls2 := [(0, ov_r (-5)), (1, ov_i ch), (2, ov_i v6), (3, ov_i v9)]) (st2 := [ov_i (-1)]) (pc2 := 28) b_32_27_1 rfl rfl ?_
      exact ov_reti (st := []) d_32_28 rfl ⟨_, rfl, rfl, rfl, (by show -1 ≤ (-1) ∧ (-1) ≤ 8; omega)⟩
  · skip
    refine ov_blk (ls2 := [(0, ov_r (-5)), (1, ov_i ch), (2, ov_i fr), (3, ov_i mx)]) (st2 := [ov_i (-1)]) (pc2 := 8) b_32_7_1 rfl rfl ?_
    exact ov_reti (st := []) d_32_8 rfl ⟨_, rfl, rfl, rfl, (by show -1 ≤ (-1) ∧ (-1) ≤ 8; omega)⟩
abbrev P_String_indexOf_III_m3 (F : ov_H) (z : ov_Z) (h : ov_H) (cx : Int) (bx : Int) : Option ov_V → ov_Z → ov_H → Prop := fun r0 z' h' => ∃ r : Int, r0 = some (ov_i r) ∧ z = z' ∧ h = h' ∧ (-1 ≤ r ∧ r ≤ 8)
set_option maxHeartbeats 4000000 in
theorem c_String_indexOf_III_m3 {u : ov_U} {F : ov_H} {z : ov_Z} {h : ov_H} (d : Nat) (hd : 2 ≤ d) (U : ov_cap u) (I : ov_I F z h) (cx : Int) (bx : Int) (g_cx : ov_g cx) (g_bx : ov_g bx) (p0 : bx = 0) : ov_T u d ov_m28 [ov_r (-3), ov_i cx, ov_i bx] z h (P_String_indexOf_III_m3 F z h cx bx) := by
  refine ov_enF pf_28 (Nat.le_of_ble_eq_true rfl) ?_
  show ov_R u d ov_m28 0 [(0, ov_r (-3)), (1, ov_i cx), (2, ov_i bx)] [] z h (P_String_indexOf_III_m3 F z h cx bx)
  refine ov_blk (ls2 := [(0, ov_r (-3)), (1, ov_i cx), (2, ov_i bx)]) (st2 := [ov_r (-3)]) (pc2 := 1) b_28_0_1 rfl rfl ?_
  refine ov_cVS (as := []) (st := []) (d2 := d - 1) d_28_1 lk_String_492 rfl (Nat.le_of_ble_eq_true rfl) U.2.2 rfl (by omega) (c_String_isLatin1_m3 (d - 1) (by omega) U I) ?_
  rintro _ _ _ ⟨v2, rfl, rfl, rfl, f1⟩
  show ov_R u d ov_m28 4 [(0, ov_r (-3)), (1, ov_i cx), (2, ov_i bx)] [ov_i v2] z h (P_String_indexOf_III_m3 F z h cx bx)
  have f3 : v2 = 1 := f1
  clear f1
  refine ov_ifeq (tgt := 23) d_28_4 (by decide) (by omega) (fun c4 => ?_) (fun c4 => ?_)
  · omega
  · skip
    refine ov_blk (ls2 := [(0, ov_r (-3)), (1, ov_i cx), (2, ov_i bx)]) (st2 := [ov_r (-3)]) (pc2 := 8) b_28_7_1 rfl rfl ?_
    refine ov_gfV d_28_8 rfl U.2.2 ?_
    refine ov_blk (ls2 := [(0, ov_r (-3)), (1, ov_i cx), (2, ov_i bx)]) (st2 := [ov_r (-3), ov_i bx, ov_i cx, ov_r (-5)]) (pc2 := 14) b_28_11_3 rfl rfl ?_
    refine ov_cVS (as := []) (st := [ov_i bx, ov_i cx, ov_r (-5)]) (d2 := d - 1) d_28_14 lk_String_505 rfl (Nat.le_of_ble_eq_true rfl) U.2.2 rfl (by omega) (c_String_length_m3 (d - 1) (by omega) U I) ?_
    rintro _ _ _ ⟨v6, rfl, rfl, rfl, f5⟩
    show ov_R u d ov_m28 17 [(0, ov_r (-3)), (1, ov_i cx), (2, ov_i bx)] [ov_i v6, ov_i bx, ov_i cx, ov_r (-5)] z h (P_String_indexOf_III_m3 F z h cx bx)
    have f7 : v6 = 8 := f5
    clear f5
    refine ov_cS (as := [ov_r (-5), ov_i cx, ov_i bx, ov_i v6]) (st := []) (d2 := d - 1) d_28_17 lk_String_637 rfl (Nat.le_of_ble_eq_true rfl) (by omega) (c_L1_indexOf_m5 (d - 1) (by omega) U I cx bx v6 (by omega) (by omega) (by omega) (by omega) (by omega)) ?_
    rintro _ _ _ ⟨v9, rfl, rfl, rfl, f8⟩
    show ov_R u d ov_m28 20 [(0, ov_r (-3)), (1, ov_i cx), (2, ov_i bx)] [ov_i v9] z h (P_String_indexOf_III_m3 F z h cx bx)
    have f10 : -1 ≤ v9 ∧ v9 ≤ 8 := f8
    clear f8
    refine ov_goto (tgt := 36) d_28_20 (by decide) ?_
    exact ov_reti (st := []) d_28_36 rfl ⟨_, rfl, rfl, rfl, (by show -1 ≤ v9 ∧ v9 ≤ 8; omega)⟩
abbrev P_String_indexOf_II_m3 (F : ov_H) (z : ov_Z) (h : ov_H) (a : Int) : Option ov_V → ov_Z → ov_H → Prop := fun r0 z' h' => ∃ r : Int, r0 = some (ov_i r) ∧ z = z' ∧ h = h' ∧ (-1 ≤ r ∧ r ≤ 8)
set_option maxHeartbeats 4000000 in
theorem c_String_indexOf_II_m3 {u : ov_U} {F : ov_H} {z : ov_Z} {h : ov_H} (d : Nat) (hd : 3 ≤ d) (U : ov_cap u) (I : ov_I F z h) (a : Int) (g_a : ov_g a) : ov_T u d ov_m27 [ov_r (-3), ov_i a] z h (P_String_indexOf_II_m3 F z h a) := by
  refine ov_enF pf_27 (Nat.le_of_ble_eq_true rfl) ?_
  show ov_R u d ov_m27 0 [(0, ov_r (-3)), (1, ov_i a)] [] z h (P_String_indexOf_II_m3 F z h a)
  refine ov_blk (ls2 := [(0, ov_r (-3)), (1, ov_i a)]) (st2 := [ov_i 0, ov_i a, ov_r (-3)]) (pc2 := 3) b_27_0_3 rfl rfl ?_
  refine ov_cVS (as := [ov_i a, ov_i 0]) (st := []) (d2 := d - 1) d_27_3 lk_String_633 rfl (Nat.le_of_ble_eq_true rfl) U.2.2 rfl (by omega) (c_String_indexOf_III_m3 (d - 1) (by omega) U I a 0 (by omega) (by omega) (by omega)) ?_
  rintro _ _ _ ⟨v2, rfl, rfl, rfl, f1⟩
  show ov_R u d ov_m27 6 [(0, ov_r (-3)), (1, ov_i a)] [ov_i v2] z h (P_String_indexOf_II_m3 F z h a)
  have f3 : -1 ≤ v2 ∧ v2 ≤ 8 := f1
  clear f1
  exact ov_reti (st := []) d_27_6 rfl ⟨_, rfl, rfl, rfl, (by show -1 ≤ v2 ∧ v2 ≤ 8; omega)⟩

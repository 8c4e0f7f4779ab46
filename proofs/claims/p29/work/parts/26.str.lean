/-! the static row RESERVED of the class, at place -2 -/
def ov_resv : List Int64 := [1953462126, 465624852596, 6447474, 1920298085, 2002873451, 7501166, 1936486263, 1920298611, 426953501796, 491496238692, 1870030194, 28526, 6713202, 427021001579, 114801865155950, 108256604483438, 123623862526821, 7237492, 6385252, 28530]
abbrev ov_tmR : Term := Term.static "OverFirst" "RESERVED" "[J"
theorem ov_wR1 : (Jvm.Cond.laysStatic "OverFirst" "RESERVED" "[J") ∈ lw_tbl := ov_ch3 (List.mem_of_getElem? (i := 34) (by decide +kernel))
theorem ov_wR2 : (Jvm.Cond.initialized "OverFirst") ∈ lw_tbl := ov_ch0 (List.mem_of_getElem? (i := 1) (by decide +kernel))
theorem ov_wR3 : (Jvm.Cond.fieldLinkNest "OverFirst$Reader" (259 : Nat) "OverFirst" "RESERVED" "[J" "OverFirst") ∈ lw_tbl := ov_ch3 (List.mem_of_getElem? (i := 33) (by decide +kernel))
theorem ov_ZR {u : ov_U} (hu : ov_Ok u) (S : ov_str u) : va_Z "OverFirst" "RESERVED" "[J" (.ref (u.2.2.2.2.2.1 (-2))) (fun q => ov_B u ≤ q) (ov_s0 u) (ov_s0 u).heap := va_Zof (hu.1 _ ov_wR1) (hu.1 _ ov_wR2) S.2.1 (fun a ha q => by unfold ov_B at q; omega)
theorem ov_TR {u : ov_U} (S : ov_str u) : va_T .long (u.2.2.2.2.2.1 (-2)) 20 (fun j => .long (ov_resv.getD j 0)) (fun q => ov_B u ≤ q) (ov_s0 u) (ov_s0 u).heap := by
  have hs := flat_of_before _ S.1
  have harr : (Cond.arrayOf ov_tmR .long).before u.2.2.1 (ov_s0 u) = true := hs _ (by decide +kernel)
  have hlen : (Term.length ov_tmR).eval u.2.2.1 (ov_s0 u) none [] (ov_s0 u) = some (.int (Int32.ofNat 20)) := va_eqt (hs _ (by decide +kernel))
  obtain ⟨t, ht, T⟩ := va_Tof (tm := ov_tmR) (ty := .long) (N := 20) (f := fun j => .long (ov_resv.getD j 0)) (A := fun q => ov_B u ≤ q) (by decide) harr hlen (fun j hj => by
    have q : j = 0 ∨ j = 1 ∨ j = 2 ∨ j = 3 ∨ j = 4 ∨ j = 5 ∨ j = 6 ∨ j = 7 ∨ j = 8 ∨ j = 9 ∨ j = 10 ∨ j = 11 ∨ j = 12 ∨ j = 13 ∨ j = 14 ∨ j = 15 ∨ j = 16 ∨ j = 17 ∨ j = 18 ∨ j = 19 := by omega
    rcases q with rfl | rfl | rfl | rfl | rfl | rfl | rfl | rfl | rfl | rfl | rfl | rfl | rfl | rfl | rfl | rfl | rfl | rfl | rfl | rfl
    · exact va_eqtl (z := 1953462126) (hs _ (by decide +kernel))
    · exact va_eqtl (z := 465624852596) (hs _ (by decide +kernel))
    · exact va_eqtl (z := 6447474) (hs _ (by decide +kernel))
    · exact va_eqtl (z := 1920298085) (hs _ (by decide +kernel))
    · exact va_eqtl (z := 2002873451) (hs _ (by decide +kernel))
    · exact va_eqtl (z := 7501166) (hs _ (by decide +kernel))
    · exact va_eqtl (z := 1936486263) (hs _ (by decide +kernel))
    · exact va_eqtl (z := 1920298611) (hs _ (by decide +kernel))
    · exact va_eqtl (z := 426953501796) (hs _ (by decide +kernel))
    · exact va_eqtl (z := 491496238692) (hs _ (by decide +kernel))
    · exact va_eqtl (z := 1870030194) (hs _ (by decide +kernel))
    · exact va_eqtl (z := 28526) (hs _ (by decide +kernel))
    · exact va_eqtl (z := 6713202) (hs _ (by decide +kernel))
    · exact va_eqtl (z := 427021001579) (hs _ (by decide +kernel))
    · exact va_eqtl (z := 114801865155950) (hs _ (by decide +kernel))
    · exact va_eqtl (z := 108256604483438) (hs _ (by decide +kernel))
    · exact va_eqtl (z := 123623862526821) (hs _ (by decide +kernel))
    · exact va_eqtl (z := 7237492) (hs _ (by decide +kernel))
    · exact va_eqtl (z := 6385252) (hs _ (by decide +kernel))
    · exact va_eqtl (z := 28530) (hs _ (by decide +kernel))) (fun a ha q => by unfold ov_B at q; omega)
  have e : some (Value.ref t) = some (.ref (u.2.2.2.2.2.1 (-2))) := ht.symm.trans S.2.1
  cases e
  exact T
theorem ov_rvn (u : ov_U) {a : Int} (ha : a < -1) : ov_tv u (ov_r a) = .ref (u.2.2.2.2.2.1 a) := by
  show ov_rv u a = _
  unfold ov_rv ov_ad
  rw [if_neg (by omega), if_neg (by omega)]
theorem ov_gstR {u : ov_U} {d : Nat} {M : ov_M} {pc : Nat} {ls : List (Nat × ov_V)} {st : List ov_V} {z : ov_Z} {h : ov_H} {Q : Option ov_V → ov_Z → ov_H → Prop} (hd : decode M.2.1 pc = .ok (.getstatic 259, 3)) (hM : M.1.cls = "OverFirst$Reader") (S : ov_str u) (k : ov_R u d M (pc + 3) ls (ov_r (-2) :: st) z h Q) : ov_R u d M pc ls st z h Q := by
  intro hu p e s m args below meth c H locs cells slots lr n0 g0 C hRp hlocs hl
  have K := k hu p e s m args below meth c H locs cells slots lr n0 g0 C hRp hlocs hl
  obtain ⟨hx, hb, hml, hret, hown, hlk, hnm, hW0, hn0, hg0⟩ := C
  obtain ⟨cf, kf, fi, f, a, cell, h1, h2, h3, h4, h5, h6, h7, h8⟩ := ((ov_ZR hu S).moved hW0.alike).kept (H1 := H) (fun a ha _ => hRp.2.2.2.2.1 a ha)
  rw [hM] at hown
  simp only [List.map_cons] at K
  rw [ov_rvn u (by decide)] at K
  exact va_WgetsN hx hb hown (va_Nw.use rfl (va_Nw.warmF hW0 (va_Nw.of rfl (hu.1 _ ov_wR3)))) h1 h2 h3 h4 h5 (fun e => by rw [e] at h6; cases h6) h7 rfl hd K
theorem ov_alenR {u : ov_U} {d : Nat} {M : ov_M} {pc : Nat} {ls : List (Nat × ov_V)} {st : List ov_V} {z : ov_Z} {h : ov_H} {Q : Option ov_V → ov_Z → ov_H → Prop} (hd : decode M.2.1 pc = .ok (.arraylength, 1)) (S : ov_str u) (k : ov_R u d M (pc + 1) ls (ov_i 20 :: st) z h Q) : ov_R u d M pc ls (ov_r (-2) :: st) z h Q := by
  intro hu p e s m args below meth c H locs cells slots lr n0 g0 C hRp hlocs hl
  have K := k hu p e s m args below meth c H locs cells slots lr n0 g0 C hRp hlocs hl
  obtain ⟨hx, hb, hml, hret, hown, hlk, hnm, hW0, hn0, hg0⟩ := C
  obtain ⟨cell, h1, h2, h3, h4, h5, h6, h7⟩ := ((ov_TR S).moved hW0.alike).kept (H1 := H) (fun a ha _ => hRp.2.2.2.2.1 a ha)
  simp only [List.map_cons] at K ⊢
  rw [ov_rvn u (by decide)]
  exact W.alen (n := Int32.ofInt 20) hx hb h1 h2 h5 rfl rfl hd K
theorem ov_laldR {u : ov_U} {d : Nat} {M : ov_M} {pc : Nat} {ls : List (Nat × ov_V)} {st : List ov_V} {z : ov_Z} {h : ov_H} {Q : Option ov_V → ov_Z → ov_H → Prop} {i : Int} (hd : decode M.2.1 pc = .ok (.laload, 1)) (S : ov_str u) (hi : 0 ≤ i ∧ i < 20) (k : ∀ w : Int, ov_R u d M (pc + 1) ls (ov_l w :: st) z h Q) : ov_R u d M pc ls (ov_i i :: ov_r (-2) :: st) z h Q := by
  have k := k (ov_resv.getD i.toNat 0).toInt
  intro hu p e s m args below meth c H locs cells slots lr n0 g0 C hRp hlocs hl
  have K := k hu p e s m args below meth c H locs cells slots lr n0 g0 C hRp hlocs hl
  obtain ⟨hx, hb, hml, hret, hown, hlk, hnm, hW0, hn0, hg0⟩ := C
  obtain ⟨cell, h1, h2, h3, h4, h5, h6, h7⟩ := ((ov_TR S).moved hW0.alike).kept (H1 := H) (fun a ha _ => hRp.2.2.2.2.1 a ha)
  simp only [List.map_cons] at K ⊢
  rw [ov_rvn u (by decide)]
  have e1 : (Int32.ofInt i).toNatClampNeg = i.toNat := ov_ix ⟨hi.1, by omega⟩
  refine W.lald (v := .long (ov_resv.getD i.toNat 0)) hx hb h1 h2 h3 ?_ ?_ rfl rfl hd ?_
  · intro q
    rcases q with q | q
    · exact ov_ixn (n := 20) ⟨hi.1, hi.2, by omega⟩ (Or.inl q)
    · rw [e1] at q
      omega
  · rw [e1]
    exact h6 _ (by omega)
  · rw [show ov_tv u (ov_l (ov_resv.getD i.toNat 0).toInt) = .long (ov_resv.getD i.toNat 0) by simp [ov_tv]] at K
    exact K
theorem d_67_0 : decode ov_m67.2.1 0 = .ok (.getstatic 259, 3) := by decide +kernel
theorem b_67_3_2 : ov_ds ov_m67.2.1 3 [.astore_n 2, .aload_n 2] = true := by decide +kernel
theorem d_67_5 : decode ov_m67.2.1 5 = .ok (.arraylength, 1) := by decide +kernel
theorem b_67_6_3 : ov_ds ov_m67.2.1 6 [.istore_n 3, .iconst 0, .istore 4] = true := by decide +kernel
theorem b_67_10_2 : ov_ds ov_m67.2.1 10 [.iload 4, .iload_n 3] = true := by decide +kernel
theorem d_67_13 : decode ov_m67.2.1 13 = .ok (.if_icmp .ge 24, 3) := by decide +kernel
theorem b_67_37_1 : ov_ds ov_m67.2.1 37 [.iconst 0] = true := by decide +kernel
theorem d_67_38 : decode ov_m67.2.1 38 = .ok (.ireturn, 1) := by decide +kernel
theorem b_67_16_2 : ov_ds ov_m67.2.1 16 [.aload_n 2, .iload 4] = true := by decide +kernel
theorem d_67_19 : decode ov_m67.2.1 19 = .ok (.laload, 1) := by decide +kernel
theorem b_67_20_4 : ov_ds ov_m67.2.1 20 [.lstore 5, .lload 5, .lload_n 0, .lcmp] = true := by decide +kernel
theorem d_67_26 : decode ov_m67.2.1 26 = .ok (.ifCond .ne 5, 3) := by decide +kernel
theorem b_67_31_1 : ov_ds ov_m67.2.1 31 [.iinc 4 1] = true := by decide +kernel
theorem d_67_34 : decode ov_m67.2.1 34 = .ok (.goto (-24), 3) := by decide +kernel
theorem b_67_29_1 : ov_ds ov_m67.2.1 29 [.iconst 1] = true := by decide +kernel
theorem d_67_30 : decode ov_m67.2.1 30 = .ok (.ireturn, 1) := by decide +kernel
abbrev P_Reader_isReserved (F : ov_H) (z : ov_Z) (h : ov_H) (w : Int) : Option ov_V → ov_Z → ov_H → Prop := fun r0 z' h' => ∃ r : Int, r0 = some (ov_i r) ∧ z = z' ∧ h = h' ∧ ((r = 0 ∨ r = 1))
set_option maxHeartbeats 4000000 in
theorem c_Reader_isReserved {u : ov_U} {F : ov_H} {z : ov_Z} {h : ov_H} (d : Nat) (hd : 0 ≤ d) (U : ov_cap u) (I : ov_I F z h) (w : Int) : ov_T u d ov_m67 [ov_l w] z h (P_Reader_isReserved F z h w) := by
  refine ov_en rfl (Nat.le_of_ble_eq_true rfl) ?_
  show ov_R u d ov_m67 0 [(0, ov_l w)] [] z h (P_Reader_isReserved F z h w)
  refine ov_gstR d_67_0 rfl U.2.2 ?_
  refine ov_blk (ls2 := [(0, ov_l w), (2, ov_r (-2))]) (st2 := [ov_r (-2)]) (pc2 := 5) b_67_3_2 rfl rfl ?_
  refine ov_alenR d_67_5 U.2.2 ?_
  refine ov_blk (ls2 := [(0, ov_l w), (2, ov_r (-2)), (3, ov_i 20), (4, ov_i 0)]) (st2 := []) (pc2 := 10) b_67_6_3 rfl rfl ?_
  have L4 : ∀ (n1 : Nat) (x4 : Int) (q3 : 0 ≤ x4 ∧ x4 ≤ 20), 20 - x4 < (n1 : Int) → ov_R u d ov_m67 10 [(0, ov_l w), (2, ov_r (-2)), (3, ov_i 20), (4, ov_i x4)] [] z h (P_Reader_isReserved F z h w) := by
    intro n1
    induction n1 with
    | zero =>
      intro x4 q3 hn5
      exact absurd hn5 (by omega)
    | succ n1 ih2 =>
      intro x4 q3 hn5
      refine ov_blk (ls2 := [(0, ov_l w), (2, ov_r (-2)), (3, ov_i 20), (4, ov_i x4)]) (st2 := [ov_i 20, ov_i x4]) (pc2 := 13) b_67_10_2 rfl rfl ?_
      refine ov_icge (tgt := 37) d_67_13 (by decide) (by omega) (by omega) (fun c6 => ?_) (fun c6 => ?_)
      · skip
        refine ov_blk (ls2 := [(0, ov_l w), (2, ov_r (-2)), (3, ov_i 20), (4, ov_i x4)]) (st2 := [ov_i 0]) (pc2 := 38) b_67_37_1 rfl rfl ?_
        exact ov_retz (st := []) d_67_38 rfl (by omega) ⟨_, rfl, rfl, rfl, (by show (0 = 0 ∨ 0 = 1); omega)⟩
      · skip
        refine ov_blk (ls2 := [(0, ov_l w), (2, ov_r (-2)), (3, ov_i 20), (4, ov_i x4)]) (st2 := [ov_i x4, ov_r (-2)]) (pc2 := 19) b_67_16_2 rfl rfl ?_
        refine ov_laldR d_67_19 U.2.2 (by omega) (fun v7 => ?_)
        refine ov_blk (ls2 := [(0, ov_l w), (2, ov_r (-2)), (3, ov_i 20), (4, ov_i x4), (5, ov_l v7)]) (st2 := [ov_i (ov_lcmp v7 w)]) (pc2 := 26) b_67_20_4 rfl rfl ?_
        have g8 := ov_lcg v7 w
        refine ov_ifne (tgt := 31) d_67_26 (by decide) (by omega) (fun c9 => ?_) (fun c9 => ?_)
        · skip
          refine ov_blk (ls2 := [(0, ov_l w), (2, ov_r (-2)), (3, ov_i 20), (4, ov_i (x4 + 1)), (5, ov_l v7)]) (st2 := []) (pc2 := 34) b_67_31_1 rfl rfl ?_
          refine ov_goto (tgt := 10) d_67_34 (by decide) ?_
          refine ov_sub (ls2 := [(0, ov_l w), (2, ov_r (-2)), (3, ov_i 20), (4, ov_i (x4 + 1))]) (List.Sublist.subset (by repeat (first | exact List.Sublist.refl _ | apply List.Sublist.cons_cons | apply List.Sublist.cons))) ?_
          exact ih2 (x4 + 1) (by show 0 ≤ (x4 + 1) ∧ (x4 + 1) ≤ 20; omega) (by omega)
        · skip
          refine ov_blk (ls2 := [(0, ov_l w), (2, ov_r (-2)), (3, ov_i 20), (4, ov_i x4), (5, ov_l v7)]) (st2 := [ov_i 1]) (pc2 := 30) b_67_29_1 rfl rfl ?_
          exact ov_retz (st := []) d_67_30 rfl (by omega) ⟨_, rfl, rfl, rfl, (by show (1 = 0 ∨ 1 = 1); omega)⟩
  exact L4 21 0 (by show 0 ≤ 0 ∧ 0 ≤ 20; omega) (by omega)

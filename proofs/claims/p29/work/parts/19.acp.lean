/-! System.arraycopy of whole rows of ints -/
def ov_cp (h : ov_H) (s t n : Int) : ov_H := fun b j => if b = t ∧ 0 ≤ j ∧ j < n then h s j else h b j
theorem ov_cp_ne {h : ov_H} {s t n b : Int} (hb : b ≠ t) : ov_cp h s t n b = h b := by
  funext j
  simp [ov_cp, hb]
theorem ov_Rp_row {u : ov_U} {z : ov_Z} {h h2 : ov_H} {H H1 : Heap} (hR : ov_Rp u z h H) {a : Int} (h0 : 0 ≤ a) (h1 : a < z.1) (hne : ∀ b : Int, b ≠ a → h2 b = h b) (hs : H1.size = H.size) (hsum : ov_sum H1 = ov_sum H) (o : ∀ q : Nat, q ≠ ov_B u + a.toNat → H1[q]? = H[q]?) (hc : ov_co u (z.2.2 a) (h2 a) (ov_B u + a.toNat) H1) : ov_Rp u z h2 H1 := by
  refine ⟨hs.trans hR.1, hsum.trans hR.2.1, hR.2.2.1, hR.2.2.2.1, fun q hq => ?_, fun b hb => ?_⟩
  · rw [o q (by omega)]
    exact hR.2.2.2.2.1 q hq
  · by_cases hba : (b : Int) = a
    · have e : b = a.toNat := by omega
      rw [hba, e]
      exact hc
    · rw [hne b hba]
      exact ov_co_kept (hR.2.2.2.2.2 b hb) (o _ (by omega))
theorem ov_acp {u : ov_U} {d : Nat} {M : ov_M} {pc : Nat} {ls : List (Nat × ov_V)} {st : List ov_V} {z : ov_Z} {h : ov_H} {Q : Option ov_V → ov_Z → ov_H → Prop} {idx n0 n1 : Nat} {s t n : Int} (hd : decode M.2.1 pc = .ok (.invokestatic idx, 3))
    (w1 : Cond.methodLink M.1.cls idx arraycopyName ∈ lw_tbl) (w2 : Cond.native arraycopyName ∈ lw_tbl) (w3 : Cond.static arraycopyName ∈ lw_tbl) (w4 : Cond.initialized "java/lang/System" ∈ lw_tbl)
    (hs : 0 ≤ s ∧ s < z.1) (hzs : z.2.2 s = (0, n0)) (ht : 0 ≤ t ∧ t < z.1) (hzt : z.2.2 t = (0, n1)) (hn : 0 ≤ n ∧ n ≤ n0 ∧ n ≤ n1 ∧ n ≤ 2147483647) (hw : ov_wd st ≤ 8) (hdp : 2 ≤ d)
    (kk : ov_R u d M (pc + 3) ls st z (ov_cp h s t n) Q) : ov_R u d M pc ls (ov_i n :: ov_i 0 :: ov_r t :: ov_i 0 :: ov_r s :: st) z h Q := by
  intro hu p e S m args below meth c0 H locs cells slots lr k0 g0 C hRp hlocs hl
  have K := fun (H1 : Heap) (locs1 : List Loc) hR1 hl1 => kk hu p e S m args below meth c0 H1 locs1 cells slots lr k0 g0 C hR1 hl1 hl
  obtain ⟨hx, hb, hml, hret, hown, hlk, hnm, hW0, hn0, hg0⟩ := C
  have c1 := ov_arr hRp hs.1 hs.2 hzs (by decide)
  have c2 := ov_arr hRp ht.1 ht.2 hzt (by decide)
  have en : (Int32.ofInt n).toNatClampNeg = n.toNat := ov_ix ⟨hn.1, hn.2.2.2⟩
  have e0 : (Int32.ofInt 0).toNatClampNeg = 0 := rfl
  have gn : ov_g n := ⟨by omega, by omega⟩
  have en' : (Int32.ofInt n).toInt = n := ov_toInt gn
  have ez' : (Int32.ofInt 0).toInt = 0 := rfl
  simp only [List.map_cons]
  rw [show ov_tv u (ov_r t) = .ref (ov_B u + t.toNat) from ov_rv_pos u ht.1, show ov_tv u (ov_r s) = .ref (ov_B u + s.toNat) from ov_rv_pos u hs.1]
  intro T hT X
  obtain ⟨-, kc0, hk0, cm0, hkk0⟩ := ov_isA hu hW0 (t := 0) (by decide) n0 (fun j => ov_el u 0 (h s (j : Int)))
  obtain ⟨-, kc1, hk1, cm1, hkk1⟩ := ov_isA hu hW0 (t := 0) (by decide) n1 (fun j => ov_el u 0 (h t (j : Int)))
  obtain ⟨vm', X', step⟩ := X.arraycopy hx hown (ov_word hu hW0 w1 rfl args) (ov_word hu hW0 w2 rfl args) (ov_word hu hW0 w3 rfl args) (ov_word hu hW0 w4 rfl args) (src := ov_B u + s.toNat) (dst := ov_B u + t.toNat) (srcPos := Int32.ofInt 0) (destPos := Int32.ofInt 0) (n := Int32.ofInt n) (by rw [hT]; exact c1) (by rw [hT]; exact c2)
    (fun _ h => by cases h) (fun _ h => by cases h) (fun h => by cases h) (fun h => by cases h) hk0 hk1 hkk0 hkk1 (by decide) (by decide) (by decide) (fun q => by have := (ov_lt32 gn ov_g0).mp q; omega)
    (by rw [en', ez', arrV_size]; omega)
    (by rw [en', ez', arrV_size]; omega)
    (fun vm₁ _ i hi => by
      have e1 : (arrV (ov_AC u 0) n0 (fun j => ov_el u 0 (h s (j : Int)))).slots.getD (0 + i) .null = ov_el u 0 (h s ((0 + i : Nat) : Int)) := by
        rw [Array.getD_eq_getD_getElem?, arrV_read _ _ (by omega)]
        rfl
      rw [e0, e1]
      exact ⟨rfl, trivial⟩)
    (g := F0 m pc lr (.int (Int32.ofInt n) :: .int (Int32.ofInt 0) :: .ref (ov_B u + t.toNat) :: .int (Int32.ofInt 0) :: .ref (ov_B u + s.toNat) :: st.map (ov_tv u))) rfl (hl.1.trans hml.symm) (rest := st.map (ov_tv u)) rfl (by rw [hb]; exact hd) (show 1 ≤ d by omega) (by
      have := ov_ctg u st
      show 2 * 0 + ((st.map (ov_tv u)).map fun v => v.category).sum + (nativeFrameWords "java/lang/System" "arraycopy" 5 + 11) ≤ 40 * d
      have e5 : nativeFrameWords "java/lang/System" "arraycopy" 5 ≤ 40 := by decide +kernel
      omega)
  have e1 : copied (arrV (ov_AC u 0) n0 (fun j => ov_el u 0 (h s (j : Int)))) (arrV (ov_AC u 0) n1 (fun j => ov_el u 0 (h t (j : Int)))) (Int32.ofInt 0) (Int32.ofInt 0) (Int32.ofInt n) = arrV (ov_AC u 0) n1 (fun j => ov_el u 0 (ov_cp h s t n t (j : Int))) := by
    have e9 := va_copied (fun x : Int => ov_el u 0 x) (ov_AC u 0) (ov_AC u 0) (n0 := n0) (n1 := n1) (sp := 0) (dp := 0) (n := n.toNat) (fun j => h s (j : Int)) (fun j => h t (j : Int)) (by omega)
    unfold copied
    rw [en, e0, e9]
    congr 1
    funext j
    congr 1
    unfold va_cpy ov_cp
    by_cases hj : j < n.toNat
    · rw [if_pos ⟨Nat.zero_le _, by omega⟩, if_pos ⟨rfl, by omega, by omega⟩]
      congr 1
      omega
    · rw [if_neg (by omega), if_neg (by omega)]
  rw [e1] at X' step
  have hlt : ov_B u + t.toNat < T.heap.size := by rw [hT]; exact (Array.getElem?_eq_some_iff.mp c2).1
  have hself := heapAt_setCell_self (s := T.setVm vm') (a := ov_B u + t.toNat) (arrV (ov_AC u 0) n1 (fun j => ov_el u 0 (ov_cp h s t n t (j : Int)))) hlt
  have hoth : ∀ q : Nat, q ≠ ov_B u + t.toNat → ((T.setVm vm').setCell (ov_B u + t.toNat) (arrV (ov_AC u 0) n1 (fun j => ov_el u 0 (ov_cp h s t n t (j : Int))))).heap[q]? = H[q]? := fun q hq => by
    rw [heapAt_setCell_ne _ (Ne.symm hq)]
    show T.heap[q]? = _
    rw [hT]
  have hsz : ((T.setVm vm').setCell (ov_B u + t.toNat) (arrV (ov_AC u 0) n1 (fun j => ov_el u 0 (ov_cp h s t n t (j : Int))))).heap.size = H.size := by
    rw [size_setCell]
    show T.heap.size = _
    rw [hT]
  have hR1 : ov_Rp u z (ov_cp h s t n) ((T.setVm vm').setCell (ov_B u + t.toNat) (arrV (ov_AC u 0) n1 (fun j => ov_el u 0 (ov_cp h s t n t (j : Int))))).heap := by
    refine ov_Rp_row hRp ht.1 ht.2 (fun b hb => ov_cp_ne hb) hsz (ov_sum_same hsz fun q x hq => ?_) hoth ?_
    · by_cases hqt : q = ov_B u + t.toNat
      · subst hqt
        rw [c2] at hq
        cases hq
        exact ⟨_, hself, by rw [arrV_size, arrV_size]⟩
      · exact ⟨x, by rw [hoth q hqt]; exact hq, rfl⟩
    · unfold ov_co
      rw [hzt, if_pos (by show 0 < 5; decide)]
      exact hself
  obtain ⟨t2, a1, b1⟩ := K _ _ hR1 (fun q hq => by
    rcases List.mem_append.mp hq with h | h
    · exact hlocs q h
    · obtain ⟨zz, -, hzz⟩ := List.mem_map.mp h
      rw [← hzz]
      exact Nat.le_add_right _ _) _ rfl X'
  exact ⟨t2, step t2 a1, b1⟩
theorem ov_I_cp {F : ov_H} {z : ov_Z} {h : ov_H} {s t n : Int} (I : ov_I F z h) (hm : ¬ (t = 37 ∨ t = 40 ∨ t = 51 ∨ t = 58 ∨ t = 70) ∧ t < 90) (hx : ∀ k, ov_pr t.toNat k (h s k)) (hq : ov_kq t → ¬ F (-6) t = 1) : ov_I F z (ov_cp h s t n) := by
  refine ⟨⟨I.1.1, fun b j h0 h1 => ?_, ?_⟩, fun b h0 h1 => ?_, fun T hT hf => ?_, fun b hb e => ?_⟩
  · unfold ov_cp
    split
    · rename_i hc
      rw [hc.1]
      exact hx j
    · exact I.1.2.1 b j h0 h1
  · have e : ∀ b : Int, (b = 37 ∨ b = 40 ∨ b = 51) → ov_cp h s t n b 0 = h b 0 := fun b hb => by
      rw [ov_cp_ne (fun q => hm.1 (by rw [← q]; omega))]
    obtain ⟨n1, n2, n3, hh⟩ := I.1.2.2
    refine ⟨n1, n2, n3, ?_⟩
    rw [e 37 (Or.inl rfl), e 40 (Or.inr (Or.inl rfl)), e 51 (Or.inr (Or.inr rfl))]
    exact hh
  · rw [ov_cp_ne (by have := hm.2; omega)]
    exact I.2.1 b h0 h1
  · rw [ov_cp_ne (fun q => hm.1 (by rw [← q]; omega))]
    exact I.2.2.1 T hT hf
  · have ne : b ≠ t := fun q => by
      rw [q] at hb e
      exact hq hb e
    rw [ov_cp_ne ne]
    exact I.2.2.2 b hb e
theorem la_Wave_81 : Cond.methodLink "OverFirst$Wave" 81 arraycopyName ∈ lw_tbl := List.mem_of_getElem? (i := 1405) (by decide +kernel)
theorem la_State_44 : Cond.methodLink "OverFirst$State" 44 arraycopyName ∈ lw_tbl := List.mem_of_getElem? (i := 1472) (by decide +kernel)
theorem la_1 : Cond.native arraycopyName ∈ lw_tbl := List.mem_of_getElem? (i := 1407) (by decide +kernel)
theorem la_2 : Cond.static arraycopyName ∈ lw_tbl := List.mem_of_getElem? (i := 1406) (by decide +kernel)
theorem la_3 : Cond.initialized "java/lang/System" ∈ lw_tbl := List.mem_of_getElem? (i := 155) (by decide +kernel)

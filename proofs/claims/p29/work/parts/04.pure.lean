/-! numbers -/
def ov_w (a : Int) : Int := (Int32.ofInt a).toInt
def ov_wl (a : Int) : Int := (Int64.ofInt a).toInt
def ov_and (a b : Int) : Int := (Int32.ofInt a &&& Int32.ofInt b).toInt
def ov_or (a b : Int) : Int := (Int32.ofInt a ||| Int32.ofInt b).toInt
def ov_xor (a b : Int) : Int := (Int32.ofInt a ^^^ Int32.ofInt b).toInt
def ov_shl (a b : Int) : Int := (Int32.ofInt a <<< (Int32.ofInt b &&& 31)).toInt
def ov_shr (a b : Int) : Int := (Int32.ofInt a >>> (Int32.ofInt b &&& 31)).toInt
def ov_ushr (a b : Int) : Int := ((Int32.ofInt a).toUInt32 >>> ((Int32.ofInt b).toUInt32 &&& Int32.toUInt32 31)).toInt32.toInt
def ov_land (a b : Int) : Int := (Int64.ofInt a &&& Int64.ofInt b).toInt
def ov_lor (a b : Int) : Int := (Int64.ofInt a ||| Int64.ofInt b).toInt
def ov_lxor (a b : Int) : Int := (Int64.ofInt a ^^^ Int64.ofInt b).toInt
def ov_lshl (a b : Int) : Int := (Int64.ofInt a <<< ((Int32.ofInt b).toInt64 &&& 63)).toInt
def ov_lshr (a b : Int) : Int := (Int64.ofInt a >>> ((Int32.ofInt b).toInt64 &&& 63)).toInt
def ov_lushr (a b : Int) : Int := ((Int64.ofInt a).toUInt64 >>> ((Int32.ofInt b).toInt64.toUInt64 &&& Int64.toUInt64 63)).toInt64.toInt
def ov_i2c (a : Int) : Int := ((Int32.ofInt a).toUInt32 % 65536).toInt32.toInt
def ov_lcmp (a b : Int) : Int := (lg_cmp (Int64.ofInt a) (Int64.ofInt b)).toInt
/-! locals -/
def ov_isl : ov_V → Bool
  | .inr (.inl _) => true
  | _ => false
def ov_dr (i : Nat) (w : Bool) (ls : List (Nat × ov_V)) : List (Nat × ov_V) := ls.filter (fun q => !(q.1 == i) && (!(w && q.1 == i + 1) && !(q.1 + 1 == i && ov_isl q.2)))
def ov_ins (i : Nat) (v : ov_V) : List (Nat × ov_V) → List (Nat × ov_V)
  | [] => [(i, v)]
  | q :: ls => if i < q.1 then (i, v) :: q :: ls else q :: ov_ins i v ls
def ov_gt (i : Nat) : List (Nat × ov_V) → Option ov_V
  | [] => none
  | q :: ls => if q.1 = i then some q.2 else ov_gt i ls
theorem ov_gt_mem {i : Nat} {v : ov_V} : ∀ {ls : List (Nat × ov_V)}, ov_gt i ls = some v → (i, v) ∈ ls
  | [], h => by cases h
  | q :: ls, h => by
    unfold ov_gt at h
    split at h
    · rename_i hq
      cases h
      subst hq
      exact List.mem_cons_self
    · exact List.mem_cons_of_mem _ (ov_gt_mem h)
theorem ov_ins_mem {i : Nat} {v : ov_V} {x : Nat × ov_V} : ∀ {ls : List (Nat × ov_V)}, x ∈ ov_ins i v ls → x = (i, v) ∨ x ∈ ls
  | [], h => Or.inl (List.mem_singleton.mp h)
  | q :: ls, h => by
    unfold ov_ins at h
    split at h
    · exact (List.mem_cons.mp h)
    · rcases List.mem_cons.mp h with h | h
      · exact Or.inr (h ▸ List.mem_cons_self)
      · rcases ov_ins_mem h with h | h
        · exact Or.inl h
        · exact Or.inr (List.mem_cons_of_mem _ h)
theorem ov_cat (u : ov_U) (v : ov_V) : ((ov_tv u v).category == 2) = ov_isl v := by
  rcases v with a | a | a
  · rfl
  · rfl
  · show ((ov_rv u a).category == 2) = false
    rw [ov_rv_cat]
    rfl
theorem ov_has_sub {ls : Array Slot} {n : Nat} {l l' : List (Nat × Value)} (h : lv_has ls n l) (hs : ∀ q ∈ l', q ∈ l) : lv_has ls n l' := ⟨h.1, h.2.1, fun q hq => h.2.2 q (hs q hq)⟩
theorem ov_has1 {u : ov_U} {lr : Array Slot} {n i : Nat} {v : ov_V} {V : Value} (hV : V = ov_tv u v) {ls : List (Nat × ov_V)} (h : lv_has lr n ((i, V) :: (ov_lm u ls).filter (fun q => !(q.1 == i) && !(q.1 + 1 == i && q.2.category == 2)))) : lv_has lr n (ov_lm u (ov_ins i v (ov_dr i false ls))) := by
  refine ov_has_sub h fun q hq => ?_
  obtain ⟨x, hx, rfl⟩ := List.mem_map.mp hq
  rcases ov_ins_mem hx with rfl | hx
  · rw [hV]
    exact List.mem_cons_self
  · obtain ⟨h1, h2⟩ := List.mem_filter.mp hx
    refine List.mem_cons_of_mem _ (List.mem_filter.mpr ⟨List.mem_map.mpr ⟨x, h1, rfl⟩, ?_⟩)
    dsimp only
    rw [ov_cat]
    simpa using h2
theorem ov_has2 {u : ov_U} {lr : Array Slot} {n i : Nat} {v : ov_V} {V : Value} (hV : V = ov_tv u v) {ls : List (Nat × ov_V)} (h : lv_has lr n ((i, V) :: (ov_lm u ls).filter (fun q => !(q.1 == i) && (!(q.1 == i + 1) && !(q.1 + 1 == i && q.2.category == 2))))) : lv_has lr n (ov_lm u (ov_ins i v (ov_dr i true ls))) := by
  refine ov_has_sub h fun q hq => ?_
  obtain ⟨x, hx, rfl⟩ := List.mem_map.mp hq
  rcases ov_ins_mem hx with rfl | hx
  · rw [hV]
    exact List.mem_cons_self
  · obtain ⟨h1, h2⟩ := List.mem_filter.mp hx
    refine List.mem_cons_of_mem _ (List.mem_filter.mpr ⟨List.mem_map.mpr ⟨x, h1, rfl⟩, ?_⟩)
    dsimp only
    rw [ov_cat]
    simpa using h2
theorem ov_lk {u : ov_U} {lr : Array Slot} {n i : Nat} {v : ov_V} {ls : List (Nat × ov_V)} (h : lv_has lr n (ov_lm u ls)) (hg : ov_gt i ls = some v) : lr[i]? = some (.val (ov_tv u v)) :=
  h.2.2 (i, ov_tv u v) (List.mem_map.mpr ⟨(i, v), ov_gt_mem hg, rfl⟩)
theorem ov_lk2 {u : ov_U} {i : Nat} {v : ov_V} {ls : List (Nat × ov_V)} (hg : ov_gt i ls = some v) : ∃ k : Nat, (ov_lm u ls)[k]? = some (i, ov_tv u v) :=
  List.getElem?_of_mem (List.mem_map.mpr ⟨(i, v), ov_gt_mem hg, rfl⟩)
/-! one instruction that touches locals and operands alone -/
def ov_pu (v : ov_V) (ls : List (Nat × ov_V)) (st : List ov_V) : Option (List (Nat × ov_V) × List ov_V) := some (ls, v :: st)
def ov_ldi (i : Nat) (ls : List (Nat × ov_V)) (st : List ov_V) : Option (List (Nat × ov_V) × List ov_V) := match ov_gt i ls with
  | some (.inl a) => some (ls, .inl a :: st)
  | _ => none
def ov_ldl (i : Nat) (ls : List (Nat × ov_V)) (st : List ov_V) : Option (List (Nat × ov_V) × List ov_V) := match ov_gt i ls with
  | some (.inr (.inl a)) => some (ls, .inr (.inl a) :: st)
  | _ => none
def ov_lda (i : Nat) (ls : List (Nat × ov_V)) (st : List ov_V) : Option (List (Nat × ov_V) × List ov_V) := match ov_gt i ls with
  | some (.inr (.inr a)) => if a = -1 then none else some (ls, .inr (.inr a) :: st)
  | _ => none
def ov_sti (n i : Nat) (ls : List (Nat × ov_V)) (st : List ov_V) : Option (List (Nat × ov_V) × List ov_V) := match st with
  | .inl a :: st => if i < n then some (ov_ins i (.inl a) (ov_dr i false ls), st) else none
  | _ => none
def ov_stl (n i : Nat) (ls : List (Nat × ov_V)) (st : List ov_V) : Option (List (Nat × ov_V) × List ov_V) := match st with
  | .inr (.inl a) :: st => if i + 1 < n then some (ov_ins i (.inr (.inl a)) (ov_dr i true ls), st) else none
  | _ => none
def ov_sta (n i : Nat) (ls : List (Nat × ov_V)) (st : List ov_V) : Option (List (Nat × ov_V) × List ov_V) := match st with
  | .inr (.inr a) :: st => if i < n ∧ a ≠ -1 then some (ov_ins i (.inr (.inr a)) (ov_dr i false ls), st) else none
  | _ => none
def ov_inc (n i : Nat) (k : Int) (ls : List (Nat × ov_V)) (st : List ov_V) : Option (List (Nat × ov_V) × List ov_V) := match ov_gt i ls with
  | some (.inl a) => if i < n then some (ov_ins i (.inl (a + k)) (ov_dr i false ls), st) else none
  | _ => none
def ov_b2 (f : Int → Int → Int) (ls : List (Nat × ov_V)) (st : List ov_V) : Option (List (Nat × ov_V) × List ov_V) := match st with
  | .inl b :: .inl a :: st => some (ls, .inl (f a b) :: st)
  | _ => none
def ov_l2 (f : Int → Int → Int) (ls : List (Nat × ov_V)) (st : List ov_V) : Option (List (Nat × ov_V) × List ov_V) := match st with
  | .inr (.inl b) :: .inr (.inl a) :: st => some (ls, .inr (.inl (f a b)) :: st)
  | _ => none
def ov_ls2 (f : Int → Int → Int) (ls : List (Nat × ov_V)) (st : List ov_V) : Option (List (Nat × ov_V) × List ov_V) := match st with
  | .inl b :: .inr (.inl a) :: st => some (ls, .inr (.inl (f a b)) :: st)
  | _ => none
def ov_lc (ls : List (Nat × ov_V)) (st : List ov_V) : Option (List (Nat × ov_V) × List ov_V) := match st with
  | .inr (.inl b) :: .inr (.inl a) :: st => some (ls, .inl (ov_lcmp a b) :: st)
  | _ => none
def ov_c1 (f : Int → ov_V) (ls : List (Nat × ov_V)) (st : List ov_V) : Option (List (Nat × ov_V) × List ov_V) := match st with
  | .inl a :: st => some (ls, f a :: st)
  | _ => none
def ov_cl1 (f : Int → ov_V) (ls : List (Nat × ov_V)) (st : List ov_V) : Option (List (Nat × ov_V) × List ov_V) := match st with
  | .inr (.inl a) :: st => some (ls, f a :: st)
  | _ => none
def ov_dup (ls : List (Nat × ov_V)) (st : List ov_V) : Option (List (Nat × ov_V) × List ov_V) := match st with
  | .inl a :: st => some (ls, .inl a :: .inl a :: st)
  | .inr (.inr a) :: st => some (ls, .inr (.inr a) :: .inr (.inr a) :: st)
  | _ => none
def ov_pop (ls : List (Nat × ov_V)) (st : List ov_V) : Option (List (Nat × ov_V) × List ov_V) := match st with
  | .inl _ :: st => some (ls, st)
  | .inr (.inr _) :: st => some (ls, st)
  | _ => none
def ov_dup2 (ls : List (Nat × ov_V)) (st : List ov_V) : Option (List (Nat × ov_V) × List ov_V) := match st with
  | .inl a :: .inr (.inr b) :: st => some (ls, .inl a :: .inr (.inr b) :: .inl a :: .inr (.inr b) :: st)
  | _ => none
def ov_pop2 (ls : List (Nat × ov_V)) (st : List ov_V) : Option (List (Nat × ov_V) × List ov_V) := match st with
  | .inr (.inl _) :: st => some (ls, st)
  | _ => none
def ov_len : Instr → Nat
  | .bipush _ => 2
  | .sipush _ => 3
  | .iload _ => 2
  | .lload _ => 2
  | .aload _ => 2
  | .istore _ => 2
  | .lstore _ => 2
  | .astore _ => 2
  | .iinc _ _ => 3
  | _ => 1
def ov_p1 (nL : Nat) (i : Instr) (ls : List (Nat × ov_V)) (st : List ov_V) : Option (List (Nat × ov_V) × List ov_V) := match i with
  | .iconst n => ov_pu (.inl n) ls st
  | .bipush n => if -128 ≤ n ∧ n ≤ 127 then ov_pu (.inl n) ls st else none
  | .sipush n => if -32768 ≤ n ∧ n ≤ 32767 then ov_pu (.inl n) ls st else none
  | .lconst n => ov_pu (.inr (.inl (n.val : Int))) ls st
  | .iload i => ov_ldi i ls st
  | .iload_n i => ov_ldi i.val ls st
  | .lload i => ov_ldl i ls st
  | .lload_n i => ov_ldl i.val ls st
  | .aload i => ov_lda i ls st
  | .aload_n i => ov_lda i.val ls st
  | .istore i => ov_sti nL i ls st
  | .istore_n i => ov_sti nL i.val ls st
  | .lstore i => ov_stl nL i ls st
  | .lstore_n i => ov_stl nL i.val ls st
  | .astore i => ov_sta nL i ls st
  | .astore_n i => ov_sta nL i.val ls st
  | .iinc i n => ov_inc nL i n ls st
  | .iadd => ov_b2 (fun a b => a + b) ls st
  | .isub => ov_b2 (fun a b => a - b) ls st
  | .imul => ov_b2 (fun a b => a * b) ls st
  | .iand => ov_b2 ov_and ls st
  | .ior => ov_b2 ov_or ls st
  | .ixor => ov_b2 ov_xor ls st
  | .ishl => ov_b2 ov_shl ls st
  | .ishr => ov_b2 ov_shr ls st
  | .iushr => ov_b2 ov_ushr ls st
  | .ladd => ov_l2 (fun a b => a + b) ls st
  | .lsub => ov_l2 (fun a b => a - b) ls st
  | .lmul => ov_l2 (fun a b => a * b) ls st
  | .land => ov_l2 ov_land ls st
  | .lor => ov_l2 ov_lor ls st
  | .lxor => ov_l2 ov_lxor ls st
  | .lshl => ov_ls2 ov_lshl ls st
  | .lshr => ov_ls2 ov_lshr ls st
  | .lushr => ov_ls2 ov_lushr ls st
  | .lcmp => ov_lc ls st
  | .i2l => ov_c1 (fun a => .inr (.inl (ov_w a))) ls st
  | .i2c => ov_c1 (fun a => .inl (ov_i2c a)) ls st
  | .l2i => ov_cl1 (fun a => .inl a) ls st
  | .ineg => ov_c1 (fun a => .inl (-a)) ls st
  | .dup => ov_dup ls st
  | .pop => ov_pop ls st
  | .dup2 => ov_dup2 ls st
  | .pop2 => ov_pop2 ls st
  | _ => none
set_option maxHeartbeats 4000000 in
theorem ov_p1_ok {u : ov_U} {d : Nat} {M : ov_M} {pc : Nat} {ls ls2 : List (Nat × ov_V)} {st st2 : List ov_V} {z : ov_Z} {h : ov_H} {Q : Option ov_V → ov_Z → ov_H → Prop} {ins : Instr} (hd : decode M.2.1 pc = .ok (ins, ov_len ins)) (hp : ov_p1 M.2.2.1 ins ls st = some (ls2, st2)) (k : ov_R u d M (pc + ov_len ins) ls2 st2 z h Q) : ov_R u d M pc ls st z h Q := by
  intro hu p e s m args below meth c H locs cells slots lr n0 g0 C hRp hlocs hl
  have K := fun lr' (hl' : lv_has lr' M.2.2.1 (ov_lm u ls2)) => k hu p e s m args below meth c H locs cells slots lr' n0 g0 C hRp hlocs hl'
  obtain ⟨hx, hb, -⟩ := C
  generalize M.2.2.1 = nL at hp K hl
  unfold ov_p1 at hp
  split at hp
  · rename_i n
    cases hp
    exact lv_iconst (v := Int32.ofInt n) hx hb hd rfl (K lr hl)
  · rename_i n
    split at hp
    · rename_i hn
      cases hp
      exact lv_bipush (v := Int32.ofInt n) hx hb hd (Int8.toInt32_ofInt hn.1 hn.2) (K lr hl)
    · cases hp
  · rename_i n
    split at hp
    · rename_i hn
      cases hp
      exact lv_sipush (v := Int32.ofInt n) hx hb hd (Int16.toInt32_ofInt hn.1 hn.2) (K lr hl)
    · cases hp
  · rename_i n
    cases hp
    exact lv_lconst (v := Int64.ofInt (n.val : Int)) hx hb hd (by rw [Int64.ofInt_eq_ofNat]) (K lr hl)
  · rename_i i
    unfold ov_ldi at hp
    split at hp
    · rename_i hg
      cases hp
      exact lv_iload hx hb hd (ov_lk hl hg) (K lr hl)
    · cases hp
  · rename_i i
    unfold ov_ldi at hp
    split at hp
    · rename_i hg
      cases hp
      exact lv_iload_n hx hb hd rfl (ov_lk hl hg) (K lr hl)
    · cases hp
  · rename_i i
    unfold ov_ldl at hp
    split at hp
    · rename_i hg
      cases hp
      exact lv_lload hx hb hd (ov_lk hl hg) (K lr hl)
    · cases hp
  · rename_i i
    unfold ov_ldl at hp
    split at hp
    · rename_i hg
      cases hp
      exact lv_lload_n hx hb hd rfl (ov_lk hl hg) (K lr hl)
    · cases hp
  · rename_i i
    unfold ov_lda at hp
    split at hp
    · rename_i a hg
      split at hp
      · cases hp
      · rename_i ha
        cases hp
        have hk := ov_lk (u := u) hl hg
        have K1 := K lr hl
        simp only [List.map_cons, ov_tv, ov_rv, if_neg ha] at hk K1
        exact lv_aload hx hb hd hk K1
    · cases hp
  · rename_i i
    unfold ov_lda at hp
    split at hp
    · rename_i a hg
      split at hp
      · cases hp
      · rename_i ha
        cases hp
        have hk := ov_lk (u := u) hl hg
        have K1 := K lr hl
        simp only [List.map_cons, ov_tv, ov_rv, if_neg ha] at hk K1
        exact lv_aload_n hx hb hd rfl hk K1
    · cases hp
  · rename_i i
    unfold ov_sti at hp
    split at hp
    · split at hp
      · rename_i hn
        cases hp
        exact lv_istore hx hb hd hl hn rfl (fun lr' h' => K lr' (ov_has1 rfl h'))
      · cases hp
    · cases hp
  · rename_i i
    unfold ov_sti at hp
    split at hp
    · split at hp
      · rename_i hn
        cases hp
        exact lv_istore_n hx hb hd rfl hl hn rfl (fun lr' h' => K lr' (ov_has1 rfl h'))
      · cases hp
    · cases hp
  · rename_i i
    unfold ov_stl at hp
    split at hp
    · split at hp
      · rename_i hn
        cases hp
        exact lv_lstore hx hb hd hl hn rfl (fun lr' h' => K lr' (ov_has2 rfl h'))
      · cases hp
    · cases hp
  · rename_i i
    unfold ov_stl at hp
    split at hp
    · split at hp
      · rename_i hn
        cases hp
        exact lv_lstore_n hx hb hd rfl hl hn rfl (fun lr' h' => K lr' (ov_has2 rfl h'))
      · cases hp
    · cases hp
  · rename_i i
    unfold ov_sta at hp
    split at hp
    · split at hp
      · rename_i hn
        cases hp
        rename_i st a
        have e : ov_tv u (.inr (.inr a)) = .ref (ov_ad u a) := by simp only [ov_tv, ov_rv, if_neg hn.2]
        show W _ _ _ _ _ _ _ _ _ _ _ _ _ _ _ (F0 m pc lr (ov_tv u (.inr (.inr a)) :: _))
        rw [e]
        exact lv_astore hx hb hd hl hn.1 rfl (fun lr' h' => K lr' (ov_has1 e.symm h'))
      · cases hp
    · cases hp
  · rename_i i
    unfold ov_sta at hp
    split at hp
    · split at hp
      · rename_i hn
        cases hp
        rename_i st a
        have e : ov_tv u (.inr (.inr a)) = .ref (ov_ad u a) := by simp only [ov_tv, ov_rv, if_neg hn.2]
        show W _ _ _ _ _ _ _ _ _ _ _ _ _ _ _ (F0 m pc lr (ov_tv u (.inr (.inr a)) :: _))
        rw [e]
        exact lv_astore_n hx hb hd rfl hl hn.1 rfl (fun lr' h' => K lr' (ov_has1 e.symm h'))
      · cases hp
    · cases hp
  · rename_i i n
    unfold ov_inc at hp
    split at hp
    · rename_i a hg
      split at hp
      · rename_i hn
        cases hp
        obtain ⟨k, hk⟩ := ov_lk2 (u := u) hg
        exact lv_iinc (v := Int32.ofInt (a + n)) hx hb hd hl hk (by rw [Int32.ofInt_add]) hn rfl (fun lr' h' => K lr' (ov_has1 rfl h'))
      · cases hp
    · cases hp
  · skip
    unfold ov_b2 at hp
    split at hp
    · rename_i b a st
      cases hp
      have e := Int32.ofInt_add a b
      have K1 : W _ _ _ _ _ _ _ _ _ _ _ _ _ _ _ (F0 m (pc + 1) lr (.int (Int32.ofInt _) :: _)) := K lr hl
      rw [e] at K1
      exact lv_iadd hx hb hd K1
    · cases hp
  · skip
    unfold ov_b2 at hp
    split at hp
    · rename_i b a st
      cases hp
      have e := Int32.ofInt_sub a b
      have K1 : W _ _ _ _ _ _ _ _ _ _ _ _ _ _ _ (F0 m (pc + 1) lr (.int (Int32.ofInt _) :: _)) := K lr hl
      rw [e] at K1
      exact lv_isub hx hb hd K1
    · cases hp
  · skip
    unfold ov_b2 at hp
    split at hp
    · rename_i b a st
      cases hp
      have e := Int32.ofInt_mul a b
      have K1 : W _ _ _ _ _ _ _ _ _ _ _ _ _ _ _ (F0 m (pc + 1) lr (.int (Int32.ofInt _) :: _)) := K lr hl
      rw [e] at K1
      exact lv_imul hx hb hd K1
    · cases hp
  · skip
    unfold ov_b2 at hp
    split at hp
    · rename_i b a st
      cases hp
      have e : Int32.ofInt (ov_and a b) = _ := Int32.ofInt_toInt _
      have K1 : W _ _ _ _ _ _ _ _ _ _ _ _ _ _ _ (F0 m (pc + 1) lr (.int (Int32.ofInt _) :: _)) := K lr hl
      rw [e] at K1
      exact lv_iand hx hb hd K1
    · cases hp
  · skip
    unfold ov_b2 at hp
    split at hp
    · rename_i b a st
      cases hp
      have e : Int32.ofInt (ov_or a b) = _ := Int32.ofInt_toInt _
      have K1 : W _ _ _ _ _ _ _ _ _ _ _ _ _ _ _ (F0 m (pc + 1) lr (.int (Int32.ofInt _) :: _)) := K lr hl
      rw [e] at K1
      exact lv_ior hx hb hd K1
    · cases hp
  · skip
    unfold ov_b2 at hp
    split at hp
    · rename_i b a st
      cases hp
      have e : Int32.ofInt (ov_xor a b) = _ := Int32.ofInt_toInt _
      have K1 : W _ _ _ _ _ _ _ _ _ _ _ _ _ _ _ (F0 m (pc + 1) lr (.int (Int32.ofInt _) :: _)) := K lr hl
      rw [e] at K1
      exact lv_ixor hx hb hd K1
    · cases hp
  · skip
    unfold ov_b2 at hp
    split at hp
    · rename_i b a st
      cases hp
      have e : Int32.ofInt (ov_shl a b) = _ := Int32.ofInt_toInt _
      have K1 : W _ _ _ _ _ _ _ _ _ _ _ _ _ _ _ (F0 m (pc + 1) lr (.int (Int32.ofInt _) :: _)) := K lr hl
      rw [e] at K1
      exact lv_ishl hx hb hd K1
    · cases hp
  · skip
    unfold ov_b2 at hp
    split at hp
    · rename_i b a st
      cases hp
      have e : Int32.ofInt (ov_shr a b) = _ := Int32.ofInt_toInt _
      have K1 : W _ _ _ _ _ _ _ _ _ _ _ _ _ _ _ (F0 m (pc + 1) lr (.int (Int32.ofInt _) :: _)) := K lr hl
      rw [e] at K1
      exact lv_ishr hx hb hd K1
    · cases hp
  · skip
    unfold ov_b2 at hp
    split at hp
    · rename_i b a st
      cases hp
      exact lv_iushr hx hb hd (Int32.ofInt_toInt _).symm (K lr hl)
    · cases hp
  · skip
    unfold ov_l2 at hp
    split at hp
    · rename_i b a st
      cases hp
      have e := Int64.ofInt_add a b
      have K1 : W _ _ _ _ _ _ _ _ _ _ _ _ _ _ _ (F0 m (pc + 1) lr (.long (Int64.ofInt _) :: _)) := K lr hl
      rw [e] at K1
      exact lv_ladd hx hb hd K1
    · cases hp
  · skip
    unfold ov_l2 at hp
    split at hp
    · rename_i b a st
      cases hp
      have e := Int64.ofInt_sub a b
      have K1 : W _ _ _ _ _ _ _ _ _ _ _ _ _ _ _ (F0 m (pc + 1) lr (.long (Int64.ofInt _) :: _)) := K lr hl
      rw [e] at K1
      exact lv_lsub hx hb hd K1
    · cases hp
  · skip
    unfold ov_l2 at hp
    split at hp
    · rename_i b a st
      cases hp
      have e := Int64.ofInt_mul a b
      have K1 : W _ _ _ _ _ _ _ _ _ _ _ _ _ _ _ (F0 m (pc + 1) lr (.long (Int64.ofInt _) :: _)) := K lr hl
      rw [e] at K1
      exact lv_lmul hx hb hd K1
    · cases hp
  · skip
    unfold ov_l2 at hp
    split at hp
    · rename_i b a st
      cases hp
      have e : Int64.ofInt (ov_land a b) = _ := Int64.ofInt_toInt _
      have K1 : W _ _ _ _ _ _ _ _ _ _ _ _ _ _ _ (F0 m (pc + 1) lr (.long (Int64.ofInt _) :: _)) := K lr hl
      rw [e] at K1
      exact lv_land hx hb hd K1
    · cases hp
  · skip
    unfold ov_l2 at hp
    split at hp
    · rename_i b a st
      cases hp
      have e : Int64.ofInt (ov_lor a b) = _ := Int64.ofInt_toInt _
      have K1 : W _ _ _ _ _ _ _ _ _ _ _ _ _ _ _ (F0 m (pc + 1) lr (.long (Int64.ofInt _) :: _)) := K lr hl
      rw [e] at K1
      exact lv_lor hx hb hd K1
    · cases hp
  · skip
    unfold ov_l2 at hp
    split at hp
    · rename_i b a st
      cases hp
      have e : Int64.ofInt (ov_lxor a b) = _ := Int64.ofInt_toInt _
      have K1 : W _ _ _ _ _ _ _ _ _ _ _ _ _ _ _ (F0 m (pc + 1) lr (.long (Int64.ofInt _) :: _)) := K lr hl
      rw [e] at K1
      exact lv_lxor hx hb hd K1
    · cases hp
  · skip
    unfold ov_ls2 at hp
    split at hp
    · rename_i b a st
      cases hp
      exact lv_lshl hx hb hd (Int64.ofInt_toInt _).symm (K lr hl)
    · cases hp
  · skip
    unfold ov_ls2 at hp
    split at hp
    · rename_i b a st
      cases hp
      exact lv_lshr hx hb hd (Int64.ofInt_toInt _).symm (K lr hl)
    · cases hp
  · skip
    unfold ov_ls2 at hp
    split at hp
    · rename_i b a st
      cases hp
      exact lv_lushr hx hb hd (Int64.ofInt_toInt _).symm (K lr hl)
    · cases hp
  · skip
    unfold ov_lc at hp
    split at hp
    · rename_i b a st
      cases hp
      have e : Int32.ofInt (ov_lcmp a b) = _ := Int32.ofInt_toInt _
      have K1 : W _ _ _ _ _ _ _ _ _ _ _ _ _ _ _ (F0 m (pc + 1) lr (.int (Int32.ofInt _) :: _)) := K lr hl
      rw [e] at K1
      exact W.lcmp hx hb hd K1
    · cases hp
  · skip
    unfold ov_c1 at hp
    split at hp
    · cases hp
      exact lv_i2l hx hb hd (Int64.ofInt_int32ToInt _).symm (K lr hl)
    · cases hp
  · skip
    unfold ov_c1 at hp
    split at hp
    · cases hp
      exact lv_i2c hx hb hd (Int32.ofInt_toInt _).symm (K lr hl)
    · cases hp
  · skip
    unfold ov_cl1 at hp
    split at hp
    · cases hp
      exact lv_l2i hx hb hd Int64.toInt32_ofInt (K lr hl)
    · cases hp
  · skip
    unfold ov_c1 at hp
    split at hp
    · rename_i a st
      cases hp
      have e := Int32.ofInt_neg a
      have K1 : W _ _ _ _ _ _ _ _ _ _ _ _ _ _ _ (F0 m (pc + 1) lr (.int (Int32.ofInt _) :: _)) := K lr hl
      rw [e] at K1
      exact lv_ineg hx hb hd K1
    · cases hp
  · skip
    unfold ov_dup at hp
    split at hp
    · cases hp
      exact lv_dup hx hb hd rfl (K lr hl)
    · cases hp
      exact lv_dup hx hb hd (ov_rv_cat u _) (K lr hl)
    · cases hp
  · skip
    unfold ov_pop at hp
    split at hp
    · cases hp
      exact lv_pop hx hb hd rfl (K lr hl)
    · cases hp
      exact lv_pop hx hb hd (ov_rv_cat u _) (K lr hl)
    · cases hp
  · skip
    unfold ov_dup2 at hp
    split at hp
    · cases hp
      exact lv_dup2_11 hx hb hd rfl (ov_rv_cat u _) (K lr hl)
    · cases hp
  · skip
    unfold ov_pop2 at hp
    split at hp
    · cases hp
      exact lv_pop2_2 hx hb hd rfl (K lr hl)
    · cases hp
  · cases hp
def ov_ps (nL : Nat) : List Instr → List (Nat × ov_V) → List ov_V → Option (List (Nat × ov_V) × List ov_V)
  | [], ls, st => some (ls, st)
  | i :: is, ls, st => match ov_p1 nL i ls st with
    | some (ls, st) => ov_ps nL is ls st
    | none => none
def ov_ds (cc : ByteArray) : Nat → List Instr → Bool
  | _, [] => true
  | pc, i :: is => decide (decode cc pc = .ok (i, ov_len i)) && ov_ds cc (pc + ov_len i) is
def ov_ln : List Instr → Nat
  | [] => 0
  | i :: is => ov_len i + ov_ln is
/-- a row of such instructions at once -/
theorem ov_blk {u : ov_U} {d : Nat} {M : ov_M} {z : ov_Z} {h : ov_H} {Q : Option ov_V → ov_Z → ov_H → Prop} : ∀ {is : List Instr} {pc pc2 : Nat} {ls ls2 : List (Nat × ov_V)} {st st2 : List ov_V}, ov_ds M.2.1 pc is = true → ov_ps M.2.2.1 is ls st = some (ls2, st2) → pc + ov_ln is = pc2 → ov_R u d M pc2 ls2 st2 z h Q → ov_R u d M pc ls st z h Q
  | [], pc, pc2, ls, ls2, st, st2, _, hp, he, k => by
    cases hp
    have : pc = pc2 := he
    rw [this]
    exact k
  | i :: is, pc, pc2, ls, ls2, st, st2, hd, hp, he, k => by
    have hd := Bool.and_eq_true_iff.mp hd
    unfold ov_ps at hp
    split at hp
    · rename_i ls1 st1 h1
      refine ov_p1_ok (of_decide_eq_true hd.1) h1 (ov_blk hd.2 hp ?_ k)
      rw [← he]
      exact Nat.add_assoc _ _ _
    · cases hp

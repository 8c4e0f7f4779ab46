/-! THE MINI MACHINE: whole numbers are Int (an int a stands for Int32.ofInt a), references are places relative to the heap's size at the law's entry; -1 is null. -/
abbrev ov_V : Type := Int ⊕ (Int ⊕ Int)
abbrev ov_H : Type := Int → Int → Int
abbrev ov_Z : Type := Nat × Nat × (Int → Nat × Nat)
abbrev ov_M : Type := MethodName × ByteArray × Nat × Option FieldType
/-- launch, the state at the law's entry, its arguments, class numbers and slots, array classes, places of the negative references, the room in cells and slots -/
abbrev ov_U : Type := Launch × State × Array Value × va_G × (Nat → ClassId) × (Int → Nat) × Nat × Nat
abbrev ov_i (a : Int) : ov_V := Sum.inl a
abbrev ov_l (a : Int) : ov_V := Sum.inr (Sum.inl a)
abbrev ov_r (a : Int) : ov_V := Sum.inr (Sum.inr a)
abbrev ov_s0 (u : ov_U) : State := u.2.1
abbrev ov_D (u : ov_U) : va_G := u.2.2.2.1
abbrev ov_AC (u : ov_U) : Nat → ClassId := u.2.2.2.2.1
abbrev ov_K (u : ov_U) : Nat := u.2.2.2.2.2.2.1
abbrev ov_S (u : ov_U) : Nat := u.2.2.2.2.2.2.2
def ov_B (u : ov_U) : Nat := (ov_s0 u).heap.size
def ov_ad (u : ov_U) (a : Int) : Nat := if 0 ≤ a then ov_B u + a.toNat else u.2.2.2.2.2.1 a
def ov_rv (u : ov_U) (a : Int) : Value := if a = -1 then .null else .ref (ov_ad u a)
def ov_tv (u : ov_U) : ov_V → Value
  | .inl a => .int (Int32.ofInt a)
  | .inr (.inl a) => .long (Int64.ofInt a)
  | .inr (.inr a) => ov_rv u a
def ov_at : Nat → FieldType := fun k => match k with
  | 0 => .int
  | 1 => .long
  | 2 => .char
  | 3 => .boolean
  | _ => .object "OverFirst$State"
def ov_el (u : ov_U) (t : Nat) (x : Int) : Value := match t with
  | 1 => .long (Int64.ofInt x)
  | 4 => ov_rv u x
  | _ => .int (Int32.ofInt x)
def ov_fv (u : ov_U) (t : Nat) (x : Int) : Value := match t with
  | 1 => .long (Int64.ofInt x)
  | 2 => ov_rv u x
  | _ => .int (Int32.ofInt x)
def ov_sum (H : Heap) : Nat := (H.toList.map (fun c => c.slots.size)).sum
/-- a cell: 0 .. 4 an array of that type and length, 5 + c an object of the class number c -/
def ov_co (u : ov_U) (s : Nat × Nat) (row : Int → Int) (A : Nat) (H : Heap) : Prop :=
  if s.1 < 5 then H[A]? = some (arrV (ov_AC u s.1) s.2 (fun j => ov_el u s.1 (row (j : Int))))
  else s.1 < 18 ∧ t_OB A ((ov_D u).1 (s.1 - 5)) (ov_nf (s.1 - 5)) ((ov_D u).2 (s.1 - 5)) H (fun k => ov_fv u (ov_ft (s.1 - 5) k) (row (k : Int)))
def ov_Rp (u : ov_U) (z : ov_Z) (h : ov_H) (H : Heap) : Prop :=
  H.size = ov_B u + z.1 ∧ ov_sum H = ov_sum (ov_s0 u).heap + z.2.1 ∧ z.1 ≤ ov_K u ∧ z.2.1 ≤ ov_S u ∧ (∀ q : Nat, q < ov_B u → H[q]? = (ov_s0 u).heap[q]?) ∧ ∀ a : Nat, a < z.1 → ov_co u (z.2.2 (a : Int)) (h (a : Int)) (ov_B u + a) H
def ov_Ok (u : ov_U) : Prop :=
  (∀ w ∈ lw_tbl, w.before u.2.2.1 (ov_s0 u) = true) ∧ va_K (ov_D u) ov_cl [] (ov_s0 u) ∧ (∀ k, k < 5 → ArrOfT (ov_s0 u) (ov_AC u k) (ov_at k) ∧ va_RA (ov_s0 u) (ov_AC u k) (ov_at k)) ∧ ∀ a : Int, a < -1 → u.2.2.2.2.2.1 a < ov_B u
def ov_rm (u : ov_U) (d n0 g0 : Nat) : Room := { frames := d, cells := ov_K u - n0, slots := ov_S u - g0, locals := 40 * d }
def ov_ws (M : ov_M) : List Cond := [.code M.1 M.2.1 M.2.2.1 M.2.2.2]
def ov_Qc (u : ov_U) (Q : Option ov_V → ov_Z → ov_H → Prop) : Array Value → State → Outcome → State → Prop := fun _ _ o t =>
  ∃ (r : Option ov_V) (z : ov_Z) (h : ov_H), o = .returned (r.map (ov_tv u)) ∧ Q r z h ∧ ov_Rp u z h t.heap ∧ (ov_s0 u).WarmedH t.vm
def ov_Pc (u : ov_U) (as : List ov_V) (z : ov_Z) (h : ov_H) : Array Value → State → Prop := fun a U =>
  a = (as.map (ov_tv u)).toArray ∧ ov_Rp u z h U.heap ∧ (ov_s0 u).WarmedH U.vm
/-- a method's contract at these arguments and this heap -/
def ov_T (u : ov_U) (d : Nat) (M : ov_M) (as : List ov_V) (z : ov_Z) (h : ov_H) (Q : Option ov_V → ov_Z → ov_H → Prop) : Prop :=
  ov_Ok u → Met u.1 M.1 (ov_ws M) (ov_rm u d z.1 z.2.1) (ov_Pc u as z h) (ov_Qc u Q) (ov_K u - z.1) (ov_S u - z.2.1) (fun q => ov_B u ≤ q)
def ov_Cx (u : ov_U) (M : ov_M) (n0 g0 : Nat) (p : Program) (s : State) (m : MethodId) (meth : Method) (c : Code) : Prop :=
  p.tables.exec = Jvm.exec ∧ c.code = M.2.1 ∧ c.maxLocals = M.2.2.1 ∧ meth.sig.returnType = M.2.2.2 ∧ s.vm.findClass M.1.cls = some m.cls ∧ meth.locks = false ∧ meth.name = M.1.name ∧ (ov_s0 u).WarmedH s.vm ∧ s.heap.size = ov_B u + n0 ∧ ov_sum s.heap = ov_sum (ov_s0 u).heap + g0
abbrev ov_lm (u : ov_U) (ls : List (Nat × ov_V)) : List (Nat × Value) := ls.map (fun q => (q.1, ov_tv u q.2))
/-- the machine at pc with these locals, this operand stack and this heap comes to its method's end with Q -/
def ov_R (u : ov_U) (d : Nat) (M : ov_M) (pc : Nat) (ls : List (Nat × ov_V)) (st : List ov_V) (z : ov_Z) (h : ov_H) (Q : Option ov_V → ov_Z → ov_H → Prop) : Prop :=
  ov_Ok u → ∀ (p : Program) (e : Env) (s : State) (m : MethodId) (args : Array Value) (below : List Frame) (meth : Method) (c : Code) (H : Heap) (locs : List Loc) (cells slots : Nat) (lr : Array Slot) (n0 g0 : Nat),
    ov_Cx u M n0 g0 p s m meth c → ov_Rp u z h H → (∀ q ∈ locs, ov_B u ≤ q.base) → lv_has lr M.2.2.1 (ov_lm u ls) →
    W p u.1 e (ov_rm u d n0 g0) s m args below meth c H locs cells slots (MQ below (ov_Qc u Q) args s (ov_K u - n0) (ov_S u - g0) (fun q => ov_B u ≤ q)) (F0 m pc lr (st.map (ov_tv u)))
/-! sums of slots -/
theorem ov_sum_old {A H : Heap} (hs : A.size ≤ H.size) (h : ∀ (a : Nat) (c : Cell), A[a]? = some c → ∃ c' : Cell, H[a]? = some c' ∧ c'.slots.size = c.slots.size) : ov_sum H = ov_sum A + ((H.toList.drop A.size).map (fun c => c.slots.size)).sum := by
  unfold ov_sum
  have e : (H.toList.take A.size).map (fun c => c.slots.size) = A.toList.map (fun c => c.slots.size) := by
    apply List.ext_getElem?
    intro i
    rw [List.getElem?_map, List.getElem?_map]
    by_cases hi : i < A.size
    · rw [List.getElem?_take_of_lt hi, Array.getElem?_toList, Array.getElem?_toList]
      obtain ⟨c', h1, h2⟩ := h i A[i] (Array.getElem?_eq_getElem hi)
      rw [h1, Array.getElem?_eq_getElem hi]
      simp [h2]
    · have l1 : (H.toList.take A.size)[i]? = none := by
        rw [List.getElem?_eq_none_iff]
        simp
        omega
      have l2 : A.toList[i]? = none := by
        rw [List.getElem?_eq_none_iff]
        simp
        omega
      rw [l1, l2]
  rw [← e, ← List.sum_append, ← List.map_append, List.take_append_drop]
theorem ov_sum_same {A H : Heap} (hs : H.size = A.size) (h : ∀ (a : Nat) (c : Cell), A[a]? = some c → ∃ c' : Cell, H[a]? = some c' ∧ c'.slots.size = c.slots.size) : ov_sum H = ov_sum A := by
  rw [ov_sum_old (Nat.le_of_eq hs.symm) h]
  have : H.toList.drop A.size = [] := List.drop_eq_nil_of_le (by simp [hs])
  rw [this]
  simp
theorem ov_sum_put {A H : Heap} {a : Nat} {c : Cell} {i : Nat} {v : Value} (hs : H.size = A.size) (ha : A[a]? = some c) (e : H[a]? = some (c.setSlot i v)) (o : ∀ q : Nat, q ≠ a → H[q]? = A[q]?) : ov_sum H = ov_sum A := by
  refine ov_sum_same hs fun q x hq => ?_
  by_cases hqa : q = a
  · subst hqa
    rw [ha] at hq
    cases hq
    exact ⟨_, e, by simp [Cell.setSlot]⟩
  · exact ⟨x, by rw [o q hqa]; exact hq, rfl⟩
theorem ov_sum_new {A H : Heap} {c : Cell} (hs : H.size = A.size + 1) (e : H[A.size]? = some c) (o : ∀ q : Nat, q < A.size → H[q]? = A[q]?) : ov_sum H = ov_sum A + c.slots.size := by
  rw [ov_sum_old (A := A) (by omega) fun q x hq => ⟨x, by rw [o q (Array.getElem?_eq_some_iff.mp hq).1]; exact hq, rfl⟩]
  have h1 : A.size < H.toList.length := by simp [hs]
  have h2 : H.toList.drop A.size = [c] := by
    rw [List.drop_eq_getElem_cons h1]
    have h3 : H.toList.drop (A.size + 1) = [] := List.drop_eq_nil_of_le (by simp [hs])
    rw [h3]
    have h4 : H.toList[A.size]? = some c := by rw [Array.getElem?_toList]; exact e
    rw [List.getElem?_eq_getElem h1] at h4
    rw [Option.some.inj h4]
  rw [h2]
  simp
/-- the room that is used so far is what the heap shows -/
theorem ov_ti {p : Program} {l : Launch} {e : Env} {R : Room} {s : State} {m : MethodId} {args : Array Value} {below : List Frame} {meth : Method} {c : Code} {H : Heap} {locs : List Loc} {cells slots : Nat} {Q : State → Prop} {g : JFrame}
    (k : s.heap.size ≤ H.size → ov_sum s.heap ≤ ov_sum H → W p l e R s m args below meth c H locs (H.size - s.heap.size) (ov_sum H - ov_sum s.heap) Q g) : W p l e R s m args below meth c H locs cells slots Q g := by
  intro T hT X
  subst hT
  have h2 : s.heap.size ≤ T.heap.size := X.same.2.1
  have h6 : ov_sum T.heap = ov_sum s.heap + ((T.heap.toList.drop s.heap.size).map (fun c => c.slots.size)).sum := ov_sum_old h2 fun a c hc => by
    obtain ⟨c', e1, -, e3, -⟩ := X.same.2.2.2.2.2 a c hc
    exact ⟨c', e1, e3⟩
  have h7 : T.heap.size ≤ s.heap.size + (T.heap.size - s.heap.size) := by omega
  have h8 : ((T.heap.toList.drop s.heap.size).map (fun c => c.slots.size)).sum ≤ ov_sum T.heap - ov_sum s.heap := by omega
  exact k h2 (by omega) T rfl { X with same := ⟨X.same.1, h2, h7, X.same.2.2.2.1, h8, X.same.2.2.2.2.2⟩ }
/-! entry -/
def ov_as : Nat → List ov_V → List (Nat × ov_V)
  | _, [] => []
  | i, .inl a :: vs => (i, .inl a) :: ov_as (i + 1) vs
  | i, .inr (.inl a) :: vs => (i, .inr (.inl a)) :: ov_as (i + 2) vs
  | i, .inr (.inr a) :: vs => (i, .inr (.inr a)) :: ov_as (i + 1) vs
theorem ov_rv_cat (u : ov_U) (a : Int) : (ov_rv u a).category = 1 := by
  unfold ov_rv
  split <;> rfl
theorem ov_as_eq (u : ov_U) : ∀ (i : Nat) (vs : List ov_V), lv_args i (vs.map (ov_tv u)) = ov_lm u (ov_as i vs)
  | _, [] => rfl
  | i, .inl a :: vs => by
    show (i, Value.int (Int32.ofInt a)) :: lv_args (i + 1) (vs.map (ov_tv u)) = (i, Value.int (Int32.ofInt a)) :: ov_lm u (ov_as (i + 1) vs)
    rw [ov_as_eq u (i + 1) vs]
  | i, .inr (.inl a) :: vs => by
    show (i, Value.long (Int64.ofInt a)) :: lv_args (i + 2) (vs.map (ov_tv u)) = (i, Value.long (Int64.ofInt a)) :: ov_lm u (ov_as (i + 2) vs)
    rw [ov_as_eq u (i + 2) vs]
  | i, .inr (.inr a) :: vs => by
    show (i, ov_rv u a) :: lv_args (if (ov_rv u a).category = 2 then i + 2 else i + 1) (vs.map (ov_tv u)) = (i, ov_rv u a) :: ov_lm u (ov_as (i + 1) vs)
    rw [ov_rv_cat, if_neg (by decide), ov_as_eq u (i + 1) vs]
def ov_wd : List ov_V → Nat
  | [] => 0
  | .inr (.inl _) :: vs => 2 + ov_wd vs
  | _ :: vs => 1 + ov_wd vs
theorem ov_wd_eq (u : ov_U) : ∀ (vs : List ov_V), (lg_sl (vs.map (ov_tv u))).length = ov_wd vs
  | [] => rfl
  | .inl a :: vs => by
    have ih := ov_wd_eq u vs
    simp only [lg_sl, List.map_cons, List.flatMap_cons, List.length_append] at ih ⊢
    rw [ih]
    rfl
  | .inr (.inl a) :: vs => by
    have ih := ov_wd_eq u vs
    simp only [lg_sl, List.map_cons, List.flatMap_cons, List.length_append] at ih ⊢
    rw [ih]
    rfl
  | .inr (.inr a) :: vs => by
    have ih := ov_wd_eq u vs
    simp only [lg_sl, List.map_cons, List.flatMap_cons, List.length_append] at ih ⊢
    rw [ih]
    show (if (ov_rv u a).category = 2 then _ else _ : List Slot).length + _ = _
    rw [ov_rv_cat, if_neg (by decide)]
    rfl
theorem ov_en {u : ov_U} {d : Nat} {M : ov_M} {as : List ov_V} {z : ov_Z} {h : ov_H} {Q : Option ov_V → ov_Z → ov_H → Prop} (hp : plainName M.1.cls = true) (hn : ov_wd as ≤ M.2.2.1)
    (k : ov_R u d M 0 (ov_as 0 as) [] z h Q) : ov_T u d M as z h Q := by
  intro hu
  obtain ⟨y, bytes, maxL, ret⟩ := M
  refine Met.ofW (cc := bytes) (maxL := maxL) (ret := ret) hp rfl ?_
  intro p e s m args below meth c s₁ B hml hv
  obtain ⟨rfl, hRp, hW⟩ := hv
  have hl := lv_entry (as.map (ov_tv u)) (n := maxL) (by rw [ov_wd_eq]; exact hn)
  rw [ov_as_eq] at hl
  rw [lg_entry_eq]
  exact k hu p e s m _ below meth c s.heap [] 0 0 _ z.1 z.2.1 ⟨B.exec, B.bytes, hml, B.returns, findClass_of_methodNamed B.named, B.notSynchronized, (name_of_methodNamed B.named B.method).1, hW, hRp.1, hRp.2.1⟩ hRp (fun _ h => by cases h) hl
theorem ov_word {u : ov_U} (hu : ov_Ok u) {s : State} (hW : (ov_s0 u).WarmedH s.vm) {w : Cond} (hm : w ∈ lw_tbl) (hg : goodWord w = true) (a : Array Value) : w.before a s = true :=
  word_at hW (good_of_word hg) (hu.1 w hm)

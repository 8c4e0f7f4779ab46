/-! THE CLAIM OUT OF ONE WALK OF THE LAW'S BODY. Your part is whole_start (and what it stands on); all else here is the same for every law, but numbers. -/
def R_law : String := "OverFirstLaw"
def lw_P (b : Addr) (xs : List Int32) (args : Array Value) (s : State) : Prop := args = #[.ref b] ∧ s.IntsAt b xs ∧ xs.length ≤ 3584 ∧ (Jvm.Cond.and given_1 narrow_1).before args s = true
def lw_Q (_ : Array Value) (s : State) (o : Outcome) (t : State) : Prop := o = .returned (some (.int 1)) ∧ Framed s o t [] 600000 7302250
def lw_Z (below : List Frame) (a : Array Value) (s : State) : State → Prop := fun t => ∃ o, t.status = .running ∧ Ended t below o ∧ lw_Q a s o t
/-- the law's own end, with 1 on the stack, nothing written that was there before, its room as the claim has it -/
theorem lw_ret {p : Program} {l : Launch} {e : Env} {s : State} {m : MethodId} {below : List Frame} {meth : Method} {c : Code} {b : Nat} (hx : p.tables.exec = Jvm.exec) (hb : c.code = code) (hr : meth.sig.returnType = ret) (hlocks : meth.locks = false) {pc : Nat} {H : Heap} {ls : Array Slot} (hdg : decode code pc = .ok (.ireturn, 1)) : W p l e room_1 s m #[Value.ref b] below meth c H [] 600000 7302250 (lw_Z below #[Value.ref b] s) (F0 m pc ls [.int 1]) := by
  intro T hT X
  obtain ⟨fs, hret, hrun, hended, hW, hframe⟩ := X.leave (v := some (.int 1)) (hlocks := hlocks) (fun h => by rw [hr] at h; cases h)
  have hmeth' : T.vm.method? m = some meth := X.method'
  refine ⟨T.setFrames fs, ?_, .returned (some (.int 1)), hrun, hended, rfl, ⟨_, rfl⟩, hW, hframe⟩
  jvm_step X.here [X.here.top, hx, hb, hdg, hmeth', hr, ret, narrow_b1]
  (try refine ⟨rfl, ?_⟩); (try refine ⟨rfl, ?_⟩)
  first | (intro acts; rw [hret _ acts rfl rfl rfl]) | rw [hret _ _ rfl rfl rfl]
  exact Steps.refl _
/-- what holds at the law's entry: the machine, the code, the tables' words (any of lw_tbl by 'hts w (by decide +kernel)'), the script of L ints xs at the cell b, what the Statement gives of the start (any of its parts by flat_of_before) -/
def lw_At (p : Program) (s : State) (m : MethodId) (meth : Method) (c : Code) (b L : Nat) (xs : Nat → Int32) : Prop :=
  p.tables.exec = Jvm.exec ∧ c.code = code ∧ meth.sig.returnType = ret ∧ c.maxLocals = 4 ∧ s.vm.findClass R_law = some m.cls ∧ (∀ w ∈ lw_tbl, w.before #[Value.ref b] s = true) ∧ va_X b L xs s s.heap ∧ b < s.heap.size ∧ meth.locks = false ∧ (Jvm.Cond.and given_1 narrow_1).before #[Value.ref b] s = true
/-! the launch, the classes, the rows of arrays, the texts, as the walks want them -/
theorem ov_inst : ∀ c, c < 13 → Cond.instantiable (ov_cs c).1 (ov_nf c) ∈ lw_tbl
  | 0, _ => nl_Law_7.2.2.1
  | 1, _ => nl_Law_10.2.2.1
  | 2, _ => nl_OF_47.2.2.1
  | 3, _ => nl_OF_32.2.2.1
  | 4, _ => nl_Goers_9.2.2.1
  | 5, _ => nl_OF_61.2.2.1
  | 6, _ => nl_OF_16.2.2.1
  | 7, _ => nl_OF_25.2.2.1
  | 8, _ => nl_OF_9.2.2.1
  | 9, _ => nl_OF_75.2.2.1
  | 10, _ => nl_OF_85.2.2.1
  | 11, _ => nl_OF_68.2.2.1
  | 12, _ => nl_OF_54.2.2.1
  | n + 13, h => absurd h (by omega)
abbrev ov_mku (l : Launch) (s : State) (b : Nat) (D : va_G) (AC : Nat → ClassId) (ad : Int → Nat) : ov_U := (l, s, #[Value.ref b], D, AC, ad, 600000, 7302250)
theorem ov_room_le {s : State} {pl : Platform} {r r' : Room} (hf : r.frames ≤ r'.frames) (hl : r.locals ≤ r'.locals) (hc : r.cells ≤ r'.cells) (hs : r.slots ≤ r'.slots) (h : s.hasRoom pl r' = true) : s.hasRoom pl r = true := by
  simp only [State.hasRoom, Bool.and_eq_true, decide_eq_true_eq] at h ⊢
  obtain ⟨⟨⟨⟨y, a, b, c, d, e⟩, f⟩, g⟩, i⟩ := h
  exact ⟨⟨⟨⟨by omega, by omega, by omega, by omega, by omega, e⟩, by omega⟩, by omega⟩, i⟩
theorem lw_wOk (l : Launch) {s : State} {b : Nat} (D : va_G) (AC : Nat → ClassId) (ad : Int → Nat) (hts : ∀ w ∈ lw_tbl, w.before #[Value.ref b] s = true) (hK : va_K D ov_cl [] s) (hA : ∀ k, k < 5 → ArrOfT s (AC k) (ov_at k) ∧ va_RA s (AC k) (ov_at k)) (had : ∀ a : Int, a < -1 → ad a < s.heap.size) : ov_Ok (ov_mku l s b D AC ad) := ⟨hts, hK, hA, had⟩
theorem lw_wCap (l : Launch) {s : State} {b : Nat} (D : va_G) (AC : Nat → ClassId) (ad : Int → Nat) (hflags : l.flags = flags0) (hgv : (Jvm.Cond.and given_1 narrow_1).before #[Value.ref b] s = true)
    (e2 : (Term.static "OverFirst" "RESERVED" "[J").eval #[Value.ref b] s none [] s = some (.ref (ad (-2)))) (e3 : (Term.string "OverFirst$Tape" 44).eval #[Value.ref b] s none [] s = some (.ref (ad (-3)))) (e5 : (Term.field (Term.string "OverFirst$Tape" 44) "java/lang/String" "value" "[B").eval #[Value.ref b] s none [] s = some (.ref (ad (-5)))) : ov_cap (ov_mku l s b D AC ad) := ⟨rfl, rfl, hgv, e2, e3, e5, hflags⟩
theorem lw_wX (l : Launch) {s : State} {b L : Nat} {xs : Nat → Int32} (D : va_G) (AC : Nat → ClassId) (ad : Int → Nat) (e4 : ad (-4) = b) (hX : va_X b L xs s s.heap) : ov_SC (ov_mku l s b D AC ad) L xs := by
  show va_X (ad (-4)) L xs s s.heap
  rw [e4]
  exact hX
theorem lw_wRp (l : Launch) {s : State} {b : Nat} (D : va_G) (AC : Nat → ClassId) (ad : Int → Nat) : ov_Rp (ov_mku l s b D AC ad) ((0 : Nat), (0 : Nat), fun _ => ((0 : Nat), (0 : Nat))) (fun _ _ => 0) s.heap := ⟨(Nat.add_zero _).symm, (Nat.add_zero _).symm, Nat.zero_le _, Nat.zero_le _, fun _ _ => rfl, fun a ha => absurd ha (Nat.not_lt_zero _)⟩
theorem lw_wCx (l : Launch) {p : Program} {s : State} {m : MethodId} {meth : Method} {c : Code} {b : Nat} (D : va_G) (AC : Nat → ClassId) (ad : Int → Nat) (hx : p.tables.exec = Jvm.exec) (hb : c.code = code) (hr : meth.sig.returnType = ret) (hml : c.maxLocals = 4) (hown : s.vm.findClass R_law = some m.cls) (hlocks : meth.locks = false) : ov_Cx (ov_mku l s b D AC ad) (ov_mL meth.name) 0 0 p s m meth c := ⟨hx, hb, hml, hr, hown, hlocks, rfl, State.WarmedH.refl s, (Nat.add_zero _).symm, (Nat.add_zero _).symm⟩
theorem lw_wH (l : Launch) {s : State} {b : Nat} (nm : String) (D : va_G) (AC : Nat → ClassId) (ad : Int → Nat) (e4 : ad (-4) = b) {ls : Array Slot} (hl : lv_has ls 4 [(0, Value.ref b)]) : lv_has ls (ov_mL nm).2.2.1 (ov_lm (ov_mku l s b D AC ad) [(0, ov_r (-4))]) := by
  show lv_has ls 4 [(0, ov_tv (ov_mku l s b D AC ad) (ov_r (-4)))]
  rw [ov_rvn _ (by decide)]
  show lv_has ls 4 [(0, Value.ref (ad (-4)))]
  rw [e4]
  exact hl
theorem lw_wRoom {s : State} {pl : Platform} (l : Launch) {b : Nat} {s0 : State} (D : va_G) (AC : Nat → ClassId) (ad : Int → Nat) (h : s.hasRoom pl room_1 = true) : s.hasRoom pl (ov_rm (ov_mku l s0 b D AC ad) 2048 0 0) = true := ov_room_le (r' := room_1) (r := ov_rm (ov_mku l s0 b D AC ad) 2048 0 0) (Nat.le_refl 2048) (show 40 * 2048 ≤ 84000 by decide) (Nat.sub_le 600000 0) (Nat.sub_le 7302250 0) h
theorem lw_wSt {p : Program} {e : Env} {s T : State} {m : MethodId} {below : List Frame} {meth : Method} {c : Code} (l : Launch) {b : Nat} (D : va_G) (AC : Nat → ClassId) (ad : Int → Nat) (X0 : Stand p l e room_1 s m #[Value.ref b] below meth c T [] 0 0) : Stand p l e (ov_rm (ov_mku l s b D AC ad) 2048 0 0) s m #[Value.ref b] below meth c T [] 0 0 := { X0 with room := lw_wRoom l D AC ad X0.room }
set_option maxHeartbeats 4000000 in
set_option maxRecDepth 100000 in
theorem lw_wW {p : Program} {e : Env} {s : State} {m : MethodId} {below : List Frame} {meth : Method} {c : Code} (l : Launch) {b L : Nat} {xs : Nat → Int32} (hL : L ≤ 3584) (D : va_G) (AC : Nat → ClassId) (ad : Int → Nat) (hOk : ov_Ok (ov_mku l s b D AC ad)) (U : ov_cap (ov_mku l s b D AC ad)) (X : ov_SC (ov_mku l s b D AC ad) L xs) (C : ov_Cx (ov_mku l s b D AC ad) (ov_mL meth.name) 0 0 p s m meth c) {ls : Array Slot} (hl2 : lv_has ls (ov_mL meth.name).2.2.1 (ov_lm (ov_mku l s b D AC ad) [(0, ov_r (-4))])) :
    W p l e (ov_rm (ov_mku l s b D AC ad) 2048 0 0) s m #[Value.ref b] below meth c s.heap [] 0 0 (MQ below (ov_Qc (ov_mku l s b D AC ad) ov_LQ) #[Value.ref b] s (ov_K (ov_mku l s b D AC ad) - 0) (ov_S (ov_mku l s b D AC ad) - 0) (fun q => ov_B (ov_mku l s b D AC ad) ≤ q)) (F0 m 0 ls (([] : List ov_V).map (ov_tv (ov_mku l s b D AC ad)))) :=
  lw_start (u := ov_mku l s b D AC ad) (nm := meth.name) (d := 2048) (by decide) U X hL hOk p e s m #[Value.ref b] below meth c s.heap [] 0 0 ls 0 0 C (lw_wRp l D AC ad) (fun q hq => by cases hq) hl2
theorem lw_wR (l : Launch) {s : State} {b : Nat} (D : va_G) (AC : Nat → ClassId) (ad : Int → Nat) {r : Option ov_V} (hr : r = some (ov_i 1)) : r.map (ov_tv (ov_mku l s b D AC ad)) = some (.int 1) := by
  rw [hr]
  rfl
set_option maxHeartbeats 4000000 in
set_option maxRecDepth 100000 in
theorem lw_whole {p : Program} {e : Env} {s : State} {m : MethodId} {below : List Frame} {meth : Method} {c : Code} (l : Launch) (hflags : l.flags = flags0) {b L : Nat} {xs : Nat → Int32} (hL : L ≤ 3584) (C0 : lw_At p s m meth c b L xs) (D : va_G) (AC : Nat → ClassId) (ad : Int → Nat) (hK : va_K D ov_cl [] s) (hA : ∀ k, k < 5 → ArrOfT s (AC k) (ov_at k) ∧ va_RA s (AC k) (ov_at k)) (had : ∀ a : Int, a < -1 → ad a < s.heap.size) (e4 : ad (-4) = b)
    (e2 : (Term.static "OverFirst" "RESERVED" "[J").eval #[Value.ref b] s none [] s = some (.ref (ad (-2)))) (e3 : (Term.string "OverFirst$Tape" 44).eval #[Value.ref b] s none [] s = some (.ref (ad (-3)))) (e5 : (Term.field (Term.string "OverFirst$Tape" 44) "java/lang/String" "value" "[B").eval #[Value.ref b] s none [] s = some (.ref (ad (-5)))) :
    W p l e room_1 s m #[Value.ref b] below meth c s.heap [] 0 0 (lw_Z below #[Value.ref b] s) (entryFrame m ([Value.ref b] : List Value).toArray 4) := by
  obtain ⟨hx, hb, hr, hml, hown, hts, hX, hbl, hlocks, hgv⟩ := C0
  have hOk := lw_wOk l D AC ad hts hK hA had
  have U := lw_wCap l D AC ad hflags hgv e2 e3 e5
  have X := lw_wX (L := L) (xs := xs) l D AC ad e4 hX
  rw [lg_entry_eq]
  have hl := lv_entry ([Value.ref b]) (n := 4) (Nat.le_of_ble_eq_true rfl)
  generalize (lg_sl ([Value.ref b]) ++ List.replicate (4 - (lg_sl ([Value.ref b])).length) Slot.unset).toArray = ls at hl ⊢
  have WW := lw_wW (p := p) (e := e) (m := m) (below := below) l hL D AC ad hOk U X (lw_wCx l D AC ad hx hb hr hml hown hlocks) (lw_wH l meth.name D AC ad e4 hl)
  intro T hT X0
  obtain ⟨t, st, o, h1, h2, hQ, L2, hF, hfree⟩ := WW T hT (lw_wSt l D AC ad X0)
  obtain ⟨r, z', h', ho, hr1, -, -⟩ := hQ
  have ho2 : o = .returned (some (.int 1)) := ho.trans (congrArg Outcome.returned (lw_wR l D AC ad hr1))
  exact ⟨t, st, o, h1, h2, ho2, hF.1, hF.2.1, hF.2.2.weaken (fun y hy hlt => absurd hlt (Nat.not_lt.mpr (hfree y hy))) (Nat.le_refl _) (Nat.le_refl _)⟩
set_option maxHeartbeats 4000000 in
set_option maxRecDepth 100000 in
theorem whole_start {p : Program} {e : Env} {s : State} {m : MethodId} {below : List Frame} {meth : Method} {c : Code} (l : Launch) (hflags : l.flags = flags0) {b L : Nat} {xs : Nat → Int32} (hL : L ≤ 3584) (C0 : lw_At p s m meth c b L xs) : W p l e room_1 s m #[Value.ref b] below meth c s.heap [] 0 0 (lw_Z below #[Value.ref b] s) (entryFrame m ([Value.ref b] : List Value).toArray 4) := by
  have hts := C0.2.2.2.2.2.1
  have hgv := C0.2.2.2.2.2.2.2.2.2
  have hbl := C0.2.2.2.2.2.2.2.1
  have hs := flat_of_before _ hgv
  have hk : ∀ c : Nat, c < 13 → ∃ q : ClassId × (Nat → Nat), u_Kn s (ov_cs c).1 (ov_cs c).2.1 (ov_cs c).2.2 q.1 q.2 := by
    intro c hc
    obtain ⟨cC, iS, h⟩ := u_known (ws := lw_tbl) (n := ov_nf c) hts (ov_uall c hc) (hts _ (ov_inst c hc))
    exact ⟨(cC, iS), h⟩
  obtain ⟨D, hD⟩ : ∃ D : va_G, ∀ c, c < 13 → u_Kn s (ov_cs c).1 (ov_cs c).2.1 (ov_cs c).2.2 (D.1 c) (D.2 c) := by
    obtain ⟨q0, -⟩ := hk 0 (by decide)
    refine ⟨(fun c => if h : c < 13 then (Classical.choose (hk c h)).1 else q0.1, fun c => if h : c < 13 then (Classical.choose (hk c h)).2 else q0.2), fun c hc => ?_⟩
    simp only [hc, dif_pos]
    exact Classical.choose_spec (hk c hc)
  have hK : va_K D ov_cl [] s := by
    refine ⟨fun c q hq => ?_, fun k q hq => by simp at hq⟩
    have hc : c < 13 := (List.getElem?_eq_some_iff.mp hq).1
    have e := Option.some.inj ((ov_clat c hc).symm.trans hq)
    rw [← e]
    exact hD c hc
  have pr : ∀ ty : FieldType, (∀ C, ty ≠ .object C) → Cond.arrayClass ty ∈ lw_tbl → ∃ cA : ClassId, ArrOfT s cA ty ∧ va_RA s cA ty := by
    intro ty hty hw
    obtain ⟨cA, kA, comp, h1, h2, h3⟩ := Cond.arrayClass_spec (args := #[Value.ref b]) (first := s) (o := none) (s := s) (idx := []) (hts _ hw)
    refine ⟨cA, fun n z => ⟨(fun k h => by cases h), kA, h2, comp, h3⟩, ?_⟩
    cases ty with
    | object C => exact absurd rfl (hty C)
    | _ => exact h1
  obtain ⟨a0, A0⟩ := pr .int (fun C h => by cases h) aw_int
  obtain ⟨a1, A1⟩ := pr .long (fun C h => by cases h) aw_long
  obtain ⟨a2, A2⟩ := pr .char (fun C h => by cases h) aw_char
  obtain ⟨a3, A3⟩ := pr .boolean (fun C h => by cases h) aw_boolean
  obtain ⟨comp, a4, k4, f1, -, f3, f4, f5⟩ := Cond.arrayOver_spec (args := #[Value.ref b]) (first := s) (o := none) (s := s) (idx := []) (hts _ ov_wAO)
  have A4 : ArrOfT s a4 (.object "OverFirst$State") ∧ va_RA s a4 (.object "OverFirst$State") := ⟨fun n z => ⟨(fun k h => by cases h), k4, f3, comp, f4⟩, k4, comp, f3, f4, f1, f5⟩
  have lenR : (Term.length ov_tmR).eval #[Value.ref b] s none [] s = some (.int (Int32.ofNat 20)) := va_eqt (hs _ (by decide +kernel))
  have lenB : (Term.length ov_tmB).eval #[Value.ref b] s none [] s = some (.int (Int32.ofNat 8)) := va_eqt (hs _ (by decide +kernel))
  obtain ⟨t2, cell2, e2, at2, -⟩ := Term.length_spec lenR
  obtain ⟨t5, cell5, e5, at5, -⟩ := Term.length_spec lenB
  obtain ⟨hc2, -⟩ := State.arrayAt?_spec at2
  obtain ⟨hc5, -⟩ := State.arrayAt?_spec at5
  have b2 : t2 < s.heap.size := (Array.getElem?_eq_some_iff.mp hc2).1
  have b5 : t5 < s.heap.size := (Array.getElem?_eq_some_iff.mp hc5).1
  obtain ⟨t3, cc, cA, kA, q1, q2, q3, -⟩ := Cond.exactly_spec (args := #[Value.ref b]) (first := s) (o := none) (s := s) (idx := []) (t := ov_tmS) (cls := "java/lang/String") (hs _ (by decide +kernel))
  have b3 : t3 < s.heap.size := (Array.getElem?_eq_some_iff.mp q3).1
  refine lw_whole l hflags hL C0 D (fun k => if k = 0 then a0 else if k = 1 then a1 else if k = 2 then a2 else if k = 3 then a3 else a4) (fun a => if a = -2 then t2 else if a = -3 then t3 else if a = -5 then t5 else b) hK (fun k hk5 => ?_) (fun a _ => ?_) rfl e2 q1 e5
  · match k, hk5 with
    | 0, _ => exact A0
    | 1, _ => exact A1
    | 2, _ => exact A2
    | 3, _ => exact A3
    | 4, _ => exact A4
    | k + 5, h => omega
  · show (if a = -2 then t2 else if a = -3 then t3 else if a = -5 then t5 else b) < s.heap.size
    repeat' split
    all_goals assumption
set_option maxHeartbeats 4000000 in
theorem lw_walk (l : Launch) (hflags : l.flags = flags0) (b : Addr) (xs : List Int32) : MetFree l x (headSpec (Jvm.Cond.code x code maxLocals ret :: tables_1) room_1) (lw_P b xs) (fun _ _ _ _ _ => True) lw_Q := by
  refine MetFree.of_bodyS (code := code) (maxLocals := maxLocals) (ret := ret) (by decide) ?_ ?_
  · intro args s m h hn
    obtain ⟨meth, c, h1, h2, h3, h4, h5, h6, -, -⟩ := Cond.code_spec hn (atoms_spec (ws := Jvm.Cond.code x code maxLocals ret :: tables_1) h _ List.mem_cons_self)
    exact ⟨meth, c, h1, h2, h3, h4, h5, h6⟩
  · intro p e s m args below meth c s₁ B hml0 hP _
    obtain ⟨rfl, hx, hbd, hgv⟩ := hP
    obtain ⟨scr, harrAt, hlist, hof, hsmall⟩ := hx
    obtain ⟨hcb, hkn, -, -⟩ := State.arrayAt?_spec harrAt
    have hown : s.vm.findClass R_law = some m.cls := findClass_of_methodNamed B.named
    have hts0 : ∀ c ∈ (Jvm.Cond.code x code maxLocals ret :: tables_1), c.before #[Value.ref b] s = true := atoms_spec (ws := Jvm.Cond.code x code maxLocals ret :: tables_1) B.pre
    have hts : ∀ w ∈ lw_tbl, w.before #[Value.ref b] s = true := k2_hts_sels lw_privs (fun w hw => hts0 w (List.mem_cons_of_mem _ hw)) lw_privs_ok
    have hml : c.maxLocals = 4 := B.maxLocals_eq (hts0 _ List.mem_cons_self)
    have X₀ : Stand p l e room_1 s m #[Value.ref b] below meth c s₁ [] 0 0 := Stand.of_body B
    have hh0 : s₁.heap = s.heap := by rw [B.state]; rfl
    have hsz : scr.slots.size = xs.length := by rw [← Array.length_toList, hlist, List.length_map]
    have hval : ∀ j : Nat, j < xs.length → scr.slots[j]? = some (.int (xs.getD j 0)) := fun j hj => by
      rw [← Array.getElem?_toList, hlist]
      simp [hj]
    have hbl : b < s.heap.size := (Array.getElem?_eq_some_iff.mp hcb).1
    have hX : va_X b xs.length (fun j => xs.getD j 0) s s.heap := ⟨scr, hcb, hof, hkn, hsz, hval⟩
    have K : W p l e room_1 s m #[Value.ref b] below meth c s₁.heap [] 0 0 (lw_Z below #[Value.ref b] s) (entryFrame m ([Value.ref b] : List Value).toArray 4) := by
      rw [hh0]
      exact whole_start l hflags hbd ⟨B.exec, B.bytes, B.returns, hml, hown, hts, hX, hbl, B.notSynchronized, hgv⟩
    obtain ⟨t, a1, o, b1, b2, b3⟩ := K s₁ rfl X₀
    exact ⟨t, o, a1, b1, b2, b3⟩
theorem lw_pre_spec {args : Array Value} {s : State} (h : (Jvm.Cond.and given_1 narrow_1).before args s = true) (hr : rest_1_c.before args s = true) : ∃ (b : Addr) (xs : List Int32), lw_P b xs args s := by
  have hs := flat_of_before _ h
  have hq := flat_of_before _ hr
  have hc : (Cond.count 1).before args s = true := hs _ (by decide +kernel)
  have harr : (Cond.arrayOf (.arg 0) .int).before args s = true := hs _ (by decide +kernel)
  have hle : (Cond.le (.length (.arg 0)) (.int 3584)).before args s = true := hs _ (by decide +kernel)
  have hlen : (Cond.isInt (.length (.arg 0))).before args s = true := hq _ (by decide +kernel)
  have hall : (Cond.all (.arg 0) (.isInt (.elem (.arg 0) (.index 0)))).before args s = true := hq _ (by decide +kernel)
  obtain ⟨b, xs, hb, hx⟩ := State.ints_of_pre rfl harr hlen hall
  have hsm : xs.length < 2 ^ 31 := hx.choose_spec.2.2.2
  have hev : (Term.length (.arg 0)).eval args s none [] s = some (.int xs.length.toInt32) := hx.length_eval hb
  have hv := Cond.le_ints hev (show (Term.int 3584).eval args s none [] s = some (.int 3584) from rfl)
  have hd : xs.length.toInt32 ≤ 3584 := by
    simpa [Cond.before, Cond.holds, hv] using hle
  have hN : xs.length ≤ 3584 := (Int32.ofNat_le_ofNat hsm (by decide)).mp (show Int32.ofNat xs.length ≤ Int32.ofNat 3584 from hd)
  exact ⟨b, xs, Cond.one_arg hc (show args[0]? = some (.ref b) from hb), hx, hN, h⟩
theorem lw_comes (l : Launch) (hflags : l.flags = flags0) : Comes l x (Jvm.Cond.code x code maxLocals ret :: tables_1) room_1 (fun tb e args s => Calls_1 tb e args s ∧ rest_1 tb e args s ∧ Pre_1 tb e args s)
    (fun _ _ args s o t => lw_Q args s o t) := by
  intro p e ha hc hk s m args below hf hfit hheap happ hpre
  obtain ⟨b, xs, hP⟩ := lw_pre_spec hpre.2.2 hpre.2.1
  obtain ⟨k, o, h1, h2, h3, hQ⟩ := lw_walk l hflags b xs p e ha hc hk s m args below hf ((Spec.applies_iff_loose hf).mp happ).1 hP trivial
  exact ⟨k, o, h1, h2, h3, hQ⟩
theorem lw_frame {s t : State} {o : Outcome} {args : Array Value} (h : Framed s o t [] 600000 7302250) :
    Framed s o t (fieldLocs frame_1_writes args s ++ arrayLocs frame_1_arrays args s ++ staticLocs frame_1_statics s) 600000 7302250 := h
theorem lw_limb (L : Cond) (hL : ∀ (args : Array Value) (s t : State), L.after args s (.returned (some (.int 1))) t = true) :
    ArmFor flags0 classFile x code maxLocals ret World_1 tables_1 room_1 Calls_1 rest_1 Pre_1
      (fun tb e a s o t => postC L tb e a s o t ∧ Framed s o t (fieldLocs frame_1_writes a s ++ arrayLocs frame_1_arrays a s ++ staticLocs frame_1_statics s) 600000 7302250) := by
  intro l hflags _ _ p e ha hc hk s m args below hf hfit hheap happ hpre
  obtain ⟨k, o, h1, h2, h3, rfl, hF⟩ := lw_comes l hflags p e ha hc hk s m args below hf hfit hheap happ hpre
  exact ⟨k, _, h1, h2, h3, hL args s _, lw_frame hF⟩
theorem i_vc : Claimed_1_1 ∧ Claimed_1_2 := ⟨lw_limb limb_1_1 (fun args s t => by simp [limb_1_1, Cond.after, Cond.holds, Cond.value]), lw_limb limb_1_2 (fun args s t => Cond.after_iff.mpr (by
  first | (rw [show limb_1_2 = Cond.eq .result (.int 1) from rfl, Cond.eq_ints (x := 1) (y := 1) rfl rfl]; simp; done) | (simp [limb_1_2, Cond.value, Term.eval]; done)))⟩

abbrev ov_g (a : Int) : Prop := -2147483648 ≤ a ∧ a ≤ 2147483647
theorem ov_toInt {a : Int} (h : ov_g a) : (Int32.ofInt a).toInt = a := Int32.toInt_ofInt_of_le h.1 (by have := h.2; omega)
theorem ov_w_id {a : Int} (h : ov_g a) : ov_w a = a := ov_toInt h
theorem ov_w_g (a : Int) : ov_g (ov_w a) := by
  have h1 := Int32.le_toInt (Int32.ofInt a)
  have h2 := Int32.toInt_lt (Int32.ofInt a)
  unfold ov_w
  constructor <;> omega
theorem ov_of_w (a : Int) : Int32.ofInt (ov_w a) = Int32.ofInt a := Int32.ofInt_toInt _
theorem ov_eq32 {a b : Int} (ha : ov_g a) (hb : ov_g b) : Int32.ofInt a = Int32.ofInt b ↔ a = b := by
  rw [← Int32.toInt_inj, ov_toInt ha, ov_toInt hb]
theorem ov_lt32 {a b : Int} (ha : ov_g a) (hb : ov_g b) : Int32.ofInt a < Int32.ofInt b ↔ a < b := by
  rw [Int32.lt_iff_toInt_lt, ov_toInt ha, ov_toInt hb]
theorem ov_le32 {a b : Int} (ha : ov_g a) (hb : ov_g b) : Int32.ofInt a ≤ Int32.ofInt b ↔ a ≤ b := by
  rw [Int32.le_iff_toInt_le, ov_toInt ha, ov_toInt hb]
theorem ov_g0 : ov_g 0 := ⟨by decide, by decide⟩
theorem ov_reti {u : ov_U} {d : Nat} {M : ov_M} {pc : Nat} {ls : List (Nat × ov_V)} {st : List ov_V} {z : ov_Z} {h : ov_H} {Q : Option ov_V → ov_Z → ov_H → Prop} {a : Int} (hd : decode M.2.1 pc = .ok (.ireturn, 1)) (hr : M.2.2.2 = some .int) (hQ : Q (some (ov_i a)) z h) : ov_R u d M pc ls [ov_i a] z h Q := by
  intro hu p e s m args below meth c H locs cells slots lr n0 g0 C hRp hlocs hl
  obtain ⟨hx, hb, hml, hret, hown, hlk, hnm, hW0, hn0, hg0⟩ := C
  refine ov_ti (fun q1 q2 => ?_)
  have r1 := hRp.1
  have r2 := hRp.2.1
  have r3 := hRp.2.2.1
  have r4 := hRp.2.2.2.1
  refine W.widen (k := ov_K u - n0) (n := ov_S u - g0) (by omega) (by omega) ?_
  exact W.iret hx hb (hret.trans hr) (fun t ht hW => ⟨(some (ov_i a)), z, h, rfl, hQ, by rw [ht]; exact hRp, State.WarmedH.trans hW0 hW⟩) hlocs hd hlk
theorem ov_retz {u : ov_U} {d : Nat} {M : ov_M} {pc : Nat} {ls : List (Nat × ov_V)} {st : List ov_V} {z : ov_Z} {h : ov_H} {Q : Option ov_V → ov_Z → ov_H → Prop} {a : Int} (hd : decode M.2.1 pc = .ok (.ireturn, 1)) (hr : M.2.2.2 = some .boolean) (ha : a = 0 ∨ a = 1) (hQ : Q (some (ov_i a)) z h) : ov_R u d M pc ls [ov_i a] z h Q := by
  intro hu p e s m args below meth c H locs cells slots lr n0 g0 C hRp hlocs hl
  obtain ⟨hx, hb, hml, hret, hown, hlk, hnm, hW0, hn0, hg0⟩ := C
  refine ov_ti (fun q1 q2 => ?_)
  have r1 := hRp.1
  have r2 := hRp.2.1
  have r3 := hRp.2.2.1
  have r4 := hRp.2.2.2.1
  refine W.widen (k := ov_K u - n0) (n := ov_S u - g0) (by omega) (by omega) ?_
  exact W.zret hx hb (hret.trans hr) (by rcases ha with rfl | rfl <;> rfl) (fun t ht hW => ⟨(some (ov_i a)), z, h, rfl, hQ, by rw [ht]; exact hRp, State.WarmedH.trans hW0 hW⟩) hlocs hd hlk
theorem ov_retl {u : ov_U} {d : Nat} {M : ov_M} {pc : Nat} {ls : List (Nat × ov_V)} {st : List ov_V} {z : ov_Z} {h : ov_H} {Q : Option ov_V → ov_Z → ov_H → Prop} {a : Int} (hd : decode M.2.1 pc = .ok (.lreturn, 1)) (hr : M.2.2.2 = some .long) (hQ : Q (some (ov_l a)) z h) : ov_R u d M pc ls [ov_l a] z h Q := by
  intro hu p e s m args below meth c H locs cells slots lr n0 g0 C hRp hlocs hl
  obtain ⟨hx, hb, hml, hret, hown, hlk, hnm, hW0, hn0, hg0⟩ := C
  refine ov_ti (fun q1 q2 => ?_)
  have r1 := hRp.1
  have r2 := hRp.2.1
  have r3 := hRp.2.2.1
  have r4 := hRp.2.2.2.1
  refine W.widen (k := ov_K u - n0) (n := ov_S u - g0) (by omega) (by omega) ?_
  exact W.lret hx hb (hret.trans hr) (fun t ht hW => ⟨(some (ov_l a)), z, h, rfl, hQ, by rw [ht]; exact hRp, State.WarmedH.trans hW0 hW⟩) hlocs hd hlk
theorem ov_retv {u : ov_U} {d : Nat} {M : ov_M} {pc : Nat} {ls : List (Nat × ov_V)} {st : List ov_V} {z : ov_Z} {h : ov_H} {Q : Option ov_V → ov_Z → ov_H → Prop}  (hd : decode M.2.1 pc = .ok (.return_, 1)) (hr : M.2.2.2 = none) (hQ : Q none z h) : ov_R u d M pc ls [] z h Q := by
  intro hu p e s m args below meth c H locs cells slots lr n0 g0 C hRp hlocs hl
  obtain ⟨hx, hb, hml, hret, hown, hlk, hnm, hW0, hn0, hg0⟩ := C
  refine ov_ti (fun q1 q2 => ?_)
  have r1 := hRp.1
  have r2 := hRp.2.1
  have r3 := hRp.2.2.1
  have r4 := hRp.2.2.2.1
  refine W.widen (k := ov_K u - n0) (n := ov_S u - g0) (by omega) (by omega) ?_
  exact W.vret hx hb (hret.trans hr) (fun t ht hW => ⟨none, z, h, rfl, hQ, by rw [ht]; exact hRp, State.WarmedH.trans hW0 hW⟩) hlocs hd hlk
theorem ov_sub {u : ov_U} {d : Nat} {M : ov_M} {pc : Nat} {ls : List (Nat × ov_V)} {st : List ov_V} {z : ov_Z} {h : ov_H} {Q : Option ov_V → ov_Z → ov_H → Prop} {ls2 : List (Nat × ov_V)} (hs : ∀ q ∈ ls2, q ∈ ls) (k : ov_R u d M pc ls2 st z h Q) : ov_R u d M pc ls st z h Q := by
  intro hu p e s m args below meth c H locs cells slots lr n0 g0 C hRp hlocs hl
  refine k hu p e s m args below meth c H locs cells slots lr n0 g0 C hRp hlocs (ov_has_sub hl fun q hq => ?_)
  obtain ⟨x, hx, rfl⟩ := List.mem_map.mp hq
  exact List.mem_map.mpr ⟨x, hs x hx, rfl⟩
theorem ov_nrm {u : ov_U} {d : Nat} {M : ov_M} {pc : Nat} {ls : List (Nat × ov_V)} {st : List ov_V} {z : ov_Z} {h : ov_H} {Q : Option ov_V → ov_Z → ov_H → Prop} {a : Int} (k : ov_R u d M pc ls (ov_i (ov_w a) :: st) z h Q) : ov_R u d M pc ls (ov_i a :: st) z h Q := by
  intro hu p e s m args below meth c H locs cells slots lr n0 g0 C hRp hlocs hl
  have K := k hu p e s m args below meth c H locs cells slots lr n0 g0 C hRp hlocs hl
  simp only [List.map_cons, ov_tv, ov_of_w] at K ⊢
  exact K
theorem ov_T_mono {u : ov_U} {d : Nat} {M : ov_M} {as : List ov_V} {z : ov_Z} {h : ov_H} {Q Q' : Option ov_V → ov_Z → ov_H → Prop} (hq : ∀ r z' h', Q r z' h' → Q' r z' h') (k : ov_T u d M as z h Q) : ov_T u d M as z h Q' := by
  intro hu
  have K := k hu
  intro p e h1 h2 h3 s m a b h4 h5 h6 h7
  obtain ⟨n, o, k1, k2, k3, ⟨r, z', h', e1, e2, e3⟩, k5⟩ := K p e h1 h2 h3 s m a b h4 h5 h6 h7
  exact ⟨n, o, k1, k2, k3, ⟨r, z', h', e1, hq _ _ _ e2, e3⟩, k5⟩
theorem ov_goto {u : ov_U} {d : Nat} {M : ov_M} {pc : Nat} {ls : List (Nat × ov_V)} {st : List ov_V} {z : ov_Z} {h : ov_H} {Q : Option ov_V → ov_Z → ov_H → Prop} {off : Int} {tgt : Nat} (hd : decode M.2.1 pc = .ok (.goto off, 3)) (ht : (pc : Int) + off = (tgt : Int)) (k : ov_R u d M tgt ls st z h Q) : ov_R u d M pc ls st z h Q := by
  intro hu p e s m args below meth c H locs cells slots lr n0 g0 C hRp hlocs hl
  exact lv_goto C.1 C.2.1 hd ht (k hu p e s m args below meth c H locs cells slots lr n0 g0 C hRp hlocs hl)
theorem ov_ifeq {u : ov_U} {d : Nat} {M : ov_M} {pc : Nat} {ls : List (Nat × ov_V)} {st : List ov_V} {z : ov_Z} {h : ov_H} {Q : Option ov_V → ov_Z → ov_H → Prop} {off : Int} {tgt : Nat} {a : Int} (hd : decode M.2.1 pc = .ok (.ifCond .eq off, 3)) (ht : (pc : Int) + off = (tgt : Int)) (ha : ov_g a) (kt : a = 0 → ov_R u d M tgt ls st z h Q) (kf : ¬ a = 0 → ov_R u d M (pc + 3) ls st z h Q) : ov_R u d M pc ls (ov_i a :: st) z h Q := by
  intro hu p e s m args below meth c H locs cells slots lr n0 g0 C hRp hlocs hl
  have E := ov_eq32 ha ov_g0
  exact lv_if_eq C.1 C.2.1 hd ht (fun hc => kt (E.mp hc) hu p e s m args below meth c H locs cells slots lr n0 g0 C hRp hlocs hl) (fun hc => kf (fun q => hc (E.mpr q)) hu p e s m args below meth c H locs cells slots lr n0 g0 C hRp hlocs hl)
theorem ov_ifne {u : ov_U} {d : Nat} {M : ov_M} {pc : Nat} {ls : List (Nat × ov_V)} {st : List ov_V} {z : ov_Z} {h : ov_H} {Q : Option ov_V → ov_Z → ov_H → Prop} {off : Int} {tgt : Nat} {a : Int} (hd : decode M.2.1 pc = .ok (.ifCond .ne off, 3)) (ht : (pc : Int) + off = (tgt : Int)) (ha : ov_g a) (kt : ¬ a = 0 → ov_R u d M tgt ls st z h Q) (kf : a = 0 → ov_R u d M (pc + 3) ls st z h Q) : ov_R u d M pc ls (ov_i a :: st) z h Q := by
  intro hu p e s m args below meth c H locs cells slots lr n0 g0 C hRp hlocs hl
  have E := ov_eq32 ha ov_g0
  exact lv_if_ne C.1 C.2.1 hd ht (fun hc => kt (fun q => hc (E.mpr q)) hu p e s m args below meth c H locs cells slots lr n0 g0 C hRp hlocs hl) (fun hc => kf (E.mp hc) hu p e s m args below meth c H locs cells slots lr n0 g0 C hRp hlocs hl)
theorem ov_iflt {u : ov_U} {d : Nat} {M : ov_M} {pc : Nat} {ls : List (Nat × ov_V)} {st : List ov_V} {z : ov_Z} {h : ov_H} {Q : Option ov_V → ov_Z → ov_H → Prop} {off : Int} {tgt : Nat} {a : Int} (hd : decode M.2.1 pc = .ok (.ifCond .lt off, 3)) (ht : (pc : Int) + off = (tgt : Int)) (ha : ov_g a) (kt : a < 0 → ov_R u d M tgt ls st z h Q) (kf : ¬ a < 0 → ov_R u d M (pc + 3) ls st z h Q) : ov_R u d M pc ls (ov_i a :: st) z h Q := by
  intro hu p e s m args below meth c H locs cells slots lr n0 g0 C hRp hlocs hl
  have E := ov_lt32 ha ov_g0
  exact lv_if_lt C.1 C.2.1 hd ht (fun hc => kt (E.mp hc) hu p e s m args below meth c H locs cells slots lr n0 g0 C hRp hlocs hl) (fun hc => kf (fun q => hc (E.mpr q)) hu p e s m args below meth c H locs cells slots lr n0 g0 C hRp hlocs hl)
theorem ov_ifge {u : ov_U} {d : Nat} {M : ov_M} {pc : Nat} {ls : List (Nat × ov_V)} {st : List ov_V} {z : ov_Z} {h : ov_H} {Q : Option ov_V → ov_Z → ov_H → Prop} {off : Int} {tgt : Nat} {a : Int} (hd : decode M.2.1 pc = .ok (.ifCond .ge off, 3)) (ht : (pc : Int) + off = (tgt : Int)) (ha : ov_g a) (kt : 0 ≤ a → ov_R u d M tgt ls st z h Q) (kf : ¬ 0 ≤ a → ov_R u d M (pc + 3) ls st z h Q) : ov_R u d M pc ls (ov_i a :: st) z h Q := by
  intro hu p e s m args below meth c H locs cells slots lr n0 g0 C hRp hlocs hl
  have E := ov_le32 ov_g0 ha
  exact lv_if_ge C.1 C.2.1 hd ht (fun hc => kt (E.mp hc) hu p e s m args below meth c H locs cells slots lr n0 g0 C hRp hlocs hl) (fun hc => kf (fun q => hc (E.mpr q)) hu p e s m args below meth c H locs cells slots lr n0 g0 C hRp hlocs hl)
theorem ov_ifgt {u : ov_U} {d : Nat} {M : ov_M} {pc : Nat} {ls : List (Nat × ov_V)} {st : List ov_V} {z : ov_Z} {h : ov_H} {Q : Option ov_V → ov_Z → ov_H → Prop} {off : Int} {tgt : Nat} {a : Int} (hd : decode M.2.1 pc = .ok (.ifCond .gt off, 3)) (ht : (pc : Int) + off = (tgt : Int)) (ha : ov_g a) (kt : 0 < a → ov_R u d M tgt ls st z h Q) (kf : ¬ 0 < a → ov_R u d M (pc + 3) ls st z h Q) : ov_R u d M pc ls (ov_i a :: st) z h Q := by
  intro hu p e s m args below meth c H locs cells slots lr n0 g0 C hRp hlocs hl
  have E := ov_lt32 ov_g0 ha
  exact lv_if_gt C.1 C.2.1 hd ht (fun hc => kt (E.mp hc) hu p e s m args below meth c H locs cells slots lr n0 g0 C hRp hlocs hl) (fun hc => kf (fun q => hc (E.mpr q)) hu p e s m args below meth c H locs cells slots lr n0 g0 C hRp hlocs hl)
theorem ov_ifle {u : ov_U} {d : Nat} {M : ov_M} {pc : Nat} {ls : List (Nat × ov_V)} {st : List ov_V} {z : ov_Z} {h : ov_H} {Q : Option ov_V → ov_Z → ov_H → Prop} {off : Int} {tgt : Nat} {a : Int} (hd : decode M.2.1 pc = .ok (.ifCond .le off, 3)) (ht : (pc : Int) + off = (tgt : Int)) (ha : ov_g a) (kt : a ≤ 0 → ov_R u d M tgt ls st z h Q) (kf : ¬ a ≤ 0 → ov_R u d M (pc + 3) ls st z h Q) : ov_R u d M pc ls (ov_i a :: st) z h Q := by
  intro hu p e s m args below meth c H locs cells slots lr n0 g0 C hRp hlocs hl
  have E := ov_le32 ha ov_g0
  exact lv_if_le C.1 C.2.1 hd ht (fun hc => kt (E.mp hc) hu p e s m args below meth c H locs cells slots lr n0 g0 C hRp hlocs hl) (fun hc => kf (fun q => hc (E.mpr q)) hu p e s m args below meth c H locs cells slots lr n0 g0 C hRp hlocs hl)
theorem ov_iceq {u : ov_U} {d : Nat} {M : ov_M} {pc : Nat} {ls : List (Nat × ov_V)} {st : List ov_V} {z : ov_Z} {h : ov_H} {Q : Option ov_V → ov_Z → ov_H → Prop} {off : Int} {tgt : Nat} {a b : Int} (hd : decode M.2.1 pc = .ok (.if_icmp .eq off, 3)) (ht : (pc : Int) + off = (tgt : Int)) (ha : ov_g a) (hb : ov_g b) (kt : a = b → ov_R u d M tgt ls st z h Q) (kf : ¬ a = b → ov_R u d M (pc + 3) ls st z h Q) : ov_R u d M pc ls (ov_i b :: ov_i a :: st) z h Q := by
  intro hu p e s m args below meth c H locs cells slots lr n0 g0 C hRp hlocs hl
  have E := ov_eq32 ha hb
  exact lv_icmp_eq C.1 C.2.1 hd ht (fun hc => kt (E.mp hc) hu p e s m args below meth c H locs cells slots lr n0 g0 C hRp hlocs hl) (fun hc => kf (fun q => hc (E.mpr q)) hu p e s m args below meth c H locs cells slots lr n0 g0 C hRp hlocs hl)
theorem ov_icne {u : ov_U} {d : Nat} {M : ov_M} {pc : Nat} {ls : List (Nat × ov_V)} {st : List ov_V} {z : ov_Z} {h : ov_H} {Q : Option ov_V → ov_Z → ov_H → Prop} {off : Int} {tgt : Nat} {a b : Int} (hd : decode M.2.1 pc = .ok (.if_icmp .ne off, 3)) (ht : (pc : Int) + off = (tgt : Int)) (ha : ov_g a) (hb : ov_g b) (kt : ¬ a = b → ov_R u d M tgt ls st z h Q) (kf : a = b → ov_R u d M (pc + 3) ls st z h Q) : ov_R u d M pc ls (ov_i b :: ov_i a :: st) z h Q := by
  intro hu p e s m args below meth c H locs cells slots lr n0 g0 C hRp hlocs hl
  have E := ov_eq32 ha hb
  exact lv_icmp_ne C.1 C.2.1 hd ht (fun hc => kt (fun q => hc (E.mpr q)) hu p e s m args below meth c H locs cells slots lr n0 g0 C hRp hlocs hl) (fun hc => kf (E.mp hc) hu p e s m args below meth c H locs cells slots lr n0 g0 C hRp hlocs hl)
theorem ov_iclt {u : ov_U} {d : Nat} {M : ov_M} {pc : Nat} {ls : List (Nat × ov_V)} {st : List ov_V} {z : ov_Z} {h : ov_H} {Q : Option ov_V → ov_Z → ov_H → Prop} {off : Int} {tgt : Nat} {a b : Int} (hd : decode M.2.1 pc = .ok (.if_icmp .lt off, 3)) (ht : (pc : Int) + off = (tgt : Int)) (ha : ov_g a) (hb : ov_g b) (kt : a < b → ov_R u d M tgt ls st z h Q) (kf : ¬ a < b → ov_R u d M (pc + 3) ls st z h Q) : ov_R u d M pc ls (ov_i b :: ov_i a :: st) z h Q := by
  intro hu p e s m args below meth c H locs cells slots lr n0 g0 C hRp hlocs hl
  have E := ov_lt32 ha hb
  exact lv_icmp_lt C.1 C.2.1 hd ht (fun hc => kt (E.mp hc) hu p e s m args below meth c H locs cells slots lr n0 g0 C hRp hlocs hl) (fun hc => kf (fun q => hc (E.mpr q)) hu p e s m args below meth c H locs cells slots lr n0 g0 C hRp hlocs hl)
theorem ov_icge {u : ov_U} {d : Nat} {M : ov_M} {pc : Nat} {ls : List (Nat × ov_V)} {st : List ov_V} {z : ov_Z} {h : ov_H} {Q : Option ov_V → ov_Z → ov_H → Prop} {off : Int} {tgt : Nat} {a b : Int} (hd : decode M.2.1 pc = .ok (.if_icmp .ge off, 3)) (ht : (pc : Int) + off = (tgt : Int)) (ha : ov_g a) (hb : ov_g b) (kt : b ≤ a → ov_R u d M tgt ls st z h Q) (kf : ¬ b ≤ a → ov_R u d M (pc + 3) ls st z h Q) : ov_R u d M pc ls (ov_i b :: ov_i a :: st) z h Q := by
  intro hu p e s m args below meth c H locs cells slots lr n0 g0 C hRp hlocs hl
  have E := ov_le32 hb ha
  exact lv_icmp_ge C.1 C.2.1 hd ht (fun hc => kt (E.mp hc) hu p e s m args below meth c H locs cells slots lr n0 g0 C hRp hlocs hl) (fun hc => kf (fun q => hc (E.mpr q)) hu p e s m args below meth c H locs cells slots lr n0 g0 C hRp hlocs hl)
theorem ov_icgt {u : ov_U} {d : Nat} {M : ov_M} {pc : Nat} {ls : List (Nat × ov_V)} {st : List ov_V} {z : ov_Z} {h : ov_H} {Q : Option ov_V → ov_Z → ov_H → Prop} {off : Int} {tgt : Nat} {a b : Int} (hd : decode M.2.1 pc = .ok (.if_icmp .gt off, 3)) (ht : (pc : Int) + off = (tgt : Int)) (ha : ov_g a) (hb : ov_g b) (kt : b < a → ov_R u d M tgt ls st z h Q) (kf : ¬ b < a → ov_R u d M (pc + 3) ls st z h Q) : ov_R u d M pc ls (ov_i b :: ov_i a :: st) z h Q := by
  intro hu p e s m args below meth c H locs cells slots lr n0 g0 C hRp hlocs hl
  have E := ov_lt32 hb ha
  exact lv_icmp_gt C.1 C.2.1 hd ht (fun hc => kt (E.mp hc) hu p e s m args below meth c H locs cells slots lr n0 g0 C hRp hlocs hl) (fun hc => kf (fun q => hc (E.mpr q)) hu p e s m args below meth c H locs cells slots lr n0 g0 C hRp hlocs hl)
theorem ov_icle {u : ov_U} {d : Nat} {M : ov_M} {pc : Nat} {ls : List (Nat × ov_V)} {st : List ov_V} {z : ov_Z} {h : ov_H} {Q : Option ov_V → ov_Z → ov_H → Prop} {off : Int} {tgt : Nat} {a b : Int} (hd : decode M.2.1 pc = .ok (.if_icmp .le off, 3)) (ht : (pc : Int) + off = (tgt : Int)) (ha : ov_g a) (hb : ov_g b) (kt : a ≤ b → ov_R u d M tgt ls st z h Q) (kf : ¬ a ≤ b → ov_R u d M (pc + 3) ls st z h Q) : ov_R u d M pc ls (ov_i b :: ov_i a :: st) z h Q := by
  intro hu p e s m args below meth c H locs cells slots lr n0 g0 C hRp hlocs hl
  have E := ov_le32 ha hb
  exact lv_icmp_le C.1 C.2.1 hd ht (fun hc => kt (E.mp hc) hu p e s m args below meth c H locs cells slots lr n0 g0 C hRp hlocs hl) (fun hc => kf (fun q => hc (E.mpr q)) hu p e s m args below meth c H locs cells slots lr n0 g0 C hRp hlocs hl)
theorem ov_ldc {u : ov_U} {d : Nat} {M : ov_M} {pc : Nat} {ls : List (Nat × ov_V)} {st : List ov_V} {z : ov_Z} {h : ov_H} {Q : Option ov_V → ov_Z → ov_H → Prop} {idx : Nat} {n : Int} (hd : decode M.2.1 pc = .ok (.ldc idx, 2)) (hw : Jvm.Cond.constant M.1.cls idx (Int32.ofInt n) ∈ lw_tbl) (k : ov_R u d M (pc + 2) ls (ov_i n :: st) z h Q) : ov_R u d M pc ls st z h Q := by
  intro hu p e s m args below meth c H locs cells slots lr n0 g0 C hRp hlocs hl
  have K := k hu p e s m args below meth c H locs cells slots lr n0 g0 C hRp hlocs hl
  obtain ⟨hx, hb, hml, hret, hown, hlk, hnm, hW0, hn0, hg0⟩ := C
  exact lv_ldc hx hb hown (ov_word hu hW0 hw rfl args) hd K
theorem ov_ldcw {u : ov_U} {d : Nat} {M : ov_M} {pc : Nat} {ls : List (Nat × ov_V)} {st : List ov_V} {z : ov_Z} {h : ov_H} {Q : Option ov_V → ov_Z → ov_H → Prop} {idx : Nat} {n : Int} (hd : decode M.2.1 pc = .ok (.ldc_w idx, 3)) (hw : Jvm.Cond.constant M.1.cls idx (Int32.ofInt n) ∈ lw_tbl) (k : ov_R u d M (pc + 3) ls (ov_i n :: st) z h Q) : ov_R u d M pc ls st z h Q := by
  intro hu p e s m args below meth c H locs cells slots lr n0 g0 C hRp hlocs hl
  have K := k hu p e s m args below meth c H locs cells slots lr n0 g0 C hRp hlocs hl
  obtain ⟨hx, hb, hml, hret, hown, hlk, hnm, hW0, hn0, hg0⟩ := C
  exact lv_ldcw hx hb hown (ov_word hu hW0 hw rfl args) hd K
theorem ov_ldc2 {u : ov_U} {d : Nat} {M : ov_M} {pc : Nat} {ls : List (Nat × ov_V)} {st : List ov_V} {z : ov_Z} {h : ov_H} {Q : Option ov_V → ov_Z → ov_H → Prop} {idx : Nat} {n : Int} (hd : decode M.2.1 pc = .ok (.ldc2_w idx, 3)) (hw : Jvm.Cond.constantLong M.1.cls idx (Int64.ofInt n) ∈ lw_tbl) (k : ov_R u d M (pc + 3) ls (ov_l n :: st) z h Q) : ov_R u d M pc ls st z h Q := by
  intro hu p e s m args below meth c H locs cells slots lr n0 g0 C hRp hlocs hl
  have K := k hu p e s m args below meth c H locs cells slots lr n0 g0 C hRp hlocs hl
  obtain ⟨hx, hb, hml, hret, hown, hlk, hnm, hW0, hn0, hg0⟩ := C
  exact lv_ldc2 hx hb hown (ov_word hu hW0 hw rfl args) hd K
abbrev ov_gl (a : Int) : Prop := -9223372036854775808 ≤ a ∧ a ≤ 9223372036854775807
theorem ov_toIntL {a : Int} (h : ov_gl a) : (Int64.ofInt a).toInt = a := Int64.toInt_ofInt_of_le h.1 (by have := h.2; omega)
theorem ov_eq64 {a b : Int} (ha : ov_gl a) (hb : ov_gl b) : Int64.ofInt a = Int64.ofInt b ↔ a = b := by
  rw [← Int64.toInt_inj, ov_toIntL ha, ov_toIntL hb]
theorem ov_div32 {a b : Int} (ha : ov_g a) (hb : ov_g b) : Int32.ofInt a / Int32.ofInt b = Int32.ofInt (a.tdiv b) := by
  rw [← Int32.toInt_inj, Int32.toInt_div, ov_toInt ha, ov_toInt hb, Int32.toInt_ofInt]
theorem ov_rem32 {a b : Int} (ha : ov_g a) (hb : ov_g b) : Int32.ofInt a - Int32.ofInt a / Int32.ofInt b * Int32.ofInt b = Int32.ofInt (a.tmod b) := by
  rw [ov_div32 ha hb, ← Int32.ofInt_mul, ← Int32.ofInt_sub]
  congr 1
  have := Int.mul_tdiv_add_tmod a b
  rw [Int.mul_comm] at this
  omega
theorem ov_div64 {a b : Int} (ha : ov_gl a) (hb : ov_gl b) : Int64.ofInt a / Int64.ofInt b = Int64.ofInt (a.tdiv b) := by
  rw [← Int64.toInt_inj, Int64.toInt_div, ov_toIntL ha, ov_toIntL hb, Int64.toInt_ofInt]
theorem ov_rem64 {a b : Int} (ha : ov_gl a) (hb : ov_gl b) : Int64.ofInt a - Int64.ofInt a / Int64.ofInt b * Int64.ofInt b = Int64.ofInt (a.tmod b) := by
  rw [ov_div64 ha hb, ← Int64.ofInt_mul, ← Int64.ofInt_sub]
  congr 1
  have := Int.mul_tdiv_add_tmod a b
  rw [Int.mul_comm] at this
  omega
theorem ov_idiv {u : ov_U} {d : Nat} {M : ov_M} {pc : Nat} {ls : List (Nat × ov_V)} {st : List ov_V} {z : ov_Z} {h : ov_H} {Q : Option ov_V → ov_Z → ov_H → Prop} {a b : Int} (hd : decode M.2.1 pc = .ok (.idiv, 1)) (ha : ov_g a) (hb : ov_g b) (hn : b ≠ 0) (k : ov_R u d M (pc + 1) ls (ov_i (a.tdiv b) :: st) z h Q) : ov_R u d M pc ls (ov_i b :: ov_i a :: st) z h Q := by
  intro hu p e s m args below meth c H locs cells slots lr n0 g0 C hRp hlocs hl
  have K := k hu p e s m args below meth c H locs cells slots lr n0 g0 C hRp hlocs hl
  simp only [List.map_cons, ov_tv] at K ⊢
  rw [← ov_div32 ha hb] at K
  exact lv_idiv C.1 C.2.1 hd (fun q => hn ((ov_eq32 hb ⟨by decide, by decide⟩).mp q)) K
theorem ov_irem {u : ov_U} {d : Nat} {M : ov_M} {pc : Nat} {ls : List (Nat × ov_V)} {st : List ov_V} {z : ov_Z} {h : ov_H} {Q : Option ov_V → ov_Z → ov_H → Prop} {a b : Int} (hd : decode M.2.1 pc = .ok (.irem, 1)) (ha : ov_g a) (hb : ov_g b) (hn : b ≠ 0) (k : ov_R u d M (pc + 1) ls (ov_i (a.tmod b) :: st) z h Q) : ov_R u d M pc ls (ov_i b :: ov_i a :: st) z h Q := by
  intro hu p e s m args below meth c H locs cells slots lr n0 g0 C hRp hlocs hl
  have K := k hu p e s m args below meth c H locs cells slots lr n0 g0 C hRp hlocs hl
  simp only [List.map_cons, ov_tv] at K ⊢
  rw [← ov_rem32 ha hb] at K
  exact lv_irem C.1 C.2.1 hd (fun q => hn ((ov_eq32 hb ⟨by decide, by decide⟩).mp q)) K
theorem ov_ldiv {u : ov_U} {d : Nat} {M : ov_M} {pc : Nat} {ls : List (Nat × ov_V)} {st : List ov_V} {z : ov_Z} {h : ov_H} {Q : Option ov_V → ov_Z → ov_H → Prop} {a b : Int} (hd : decode M.2.1 pc = .ok (.ldiv, 1)) (ha : ov_gl a) (hb : ov_gl b) (hn : b ≠ 0) (k : ov_R u d M (pc + 1) ls (ov_l (a.tdiv b) :: st) z h Q) : ov_R u d M pc ls (ov_l b :: ov_l a :: st) z h Q := by
  intro hu p e s m args below meth c H locs cells slots lr n0 g0 C hRp hlocs hl
  have K := k hu p e s m args below meth c H locs cells slots lr n0 g0 C hRp hlocs hl
  simp only [List.map_cons, ov_tv] at K ⊢
  rw [← ov_div64 ha hb] at K
  exact lv_ldiv C.1 C.2.1 hd (fun q => hn ((ov_eq64 hb ⟨by decide, by decide⟩).mp q)) K
theorem ov_lrem {u : ov_U} {d : Nat} {M : ov_M} {pc : Nat} {ls : List (Nat × ov_V)} {st : List ov_V} {z : ov_Z} {h : ov_H} {Q : Option ov_V → ov_Z → ov_H → Prop} {a b : Int} (hd : decode M.2.1 pc = .ok (.lrem, 1)) (ha : ov_gl a) (hb : ov_gl b) (hn : b ≠ 0) (k : ov_R u d M (pc + 1) ls (ov_l (a.tmod b) :: st) z h Q) : ov_R u d M pc ls (ov_l b :: ov_l a :: st) z h Q := by
  intro hu p e s m args below meth c H locs cells slots lr n0 g0 C hRp hlocs hl
  have K := k hu p e s m args below meth c H locs cells slots lr n0 g0 C hRp hlocs hl
  simp only [List.map_cons, ov_tv] at K ⊢
  rw [← ov_rem64 ha hb] at K
  exact lv_lrem C.1 C.2.1 hd (fun q => hn ((ov_eq64 hb ⟨by decide, by decide⟩).mp q)) K
/-! fields -/
def ov_cs (ci : Nat) : vw_C := ov_cl.getD ci ("", fun _ => ("", "", "", false), 0)
def ov_yy : Nat → Nat → FieldType := fun c => match c with
  | 0 => ov_y0
  | 1 => ov_y1
  | 2 => ov_y2
  | 3 => ov_y3
  | 4 => ov_y4
  | 5 => ov_y5
  | 6 => ov_y6
  | 7 => ov_y7
  | 8 => ov_y8
  | 9 => ov_y9
  | 10 => ov_y10
  | 11 => ov_y11
  | _ => ov_y12
def ov_tyok : FieldType → Nat → Bool
  | .int, 0 => true
  | .long, 1 => true
  | .object _, 2 => true
  | .array _, 2 => true
  | .boolean, 3 => true
  | .char, 4 => true
  | _, _ => false
theorem ov_tyall : ∀ c, c < 13 → ∀ k, k < ov_nf c → ov_tyok (ov_yy c k) (ov_ft c k) = true := by decide +kernel
theorem ov_cN : ∀ c, c < 13 → (ov_cs c).2.2 = ov_nf c := by decide +kernel
theorem ov_uall : ∀ c, c < 13 → ∀ w ∈ u_ws (ov_cs c).1 (ov_cs c).2.1 (ov_cs c).2.2, w ∈ lw_tbl
  | 0, _ => ov_u0
  | 1, _ => ov_u1
  | 2, _ => ov_u2
  | 3, _ => ov_u3
  | 4, _ => ov_u4
  | 5, _ => ov_u5
  | 6, _ => ov_u6
  | 7, _ => ov_u7
  | 8, _ => ov_u8
  | 9, _ => ov_u9
  | 10, _ => ov_u10
  | 11, _ => ov_u11
  | 12, _ => ov_u12
  | n + 13, h => absurd h (by omega)
theorem ov_kall : ∀ c, c < 13 → ∀ k, k < (ov_cs c).2.2 → parseFieldDescriptor ((ov_cs c).2.1 k).2.2.1 = some (ov_yy c k)
  | 0, _ => ov_k0
  | 1, _ => ov_k1
  | 2, _ => ov_k2
  | 3, _ => ov_k3
  | 4, _ => ov_k4
  | 5, _ => ov_k5
  | 6, _ => ov_k6
  | 7, _ => ov_k7
  | 8, _ => ov_k8
  | 9, _ => ov_k9
  | 10, _ => ov_k10
  | 11, _ => ov_k11
  | 12, _ => ov_k12
  | n + 13, h => absurd h (by omega)
theorem ov_nall : ∀ c, c < 13 → ∀ a, a < (ov_cs c).2.2 → ∀ b, b < (ov_cs c).2.2 → a ≠ b → ((ov_cs c).2.1 a).2.1 ≠ ((ov_cs c).2.1 b).2.1
  | 0, _ => ov_n0
  | 1, _ => ov_n1
  | 2, _ => ov_n2
  | 3, _ => ov_n3
  | 4, _ => ov_n4
  | 5, _ => ov_n5
  | 6, _ => ov_n6
  | 7, _ => ov_n7
  | 8, _ => ov_n8
  | 9, _ => ov_n9
  | 10, _ => ov_n10
  | 11, _ => ov_n11
  | 12, _ => ov_n12
  | n + 13, h => absurd h (by omega)
theorem ov_clat : ∀ c, c < 13 → ov_cl[c]? = some (ov_cs c)
  | 0, _ => rfl
  | 1, _ => rfl
  | 2, _ => rfl
  | 3, _ => rfl
  | 4, _ => rfl
  | 5, _ => rfl
  | 6, _ => rfl
  | 7, _ => rfl
  | 8, _ => rfl
  | 9, _ => rfl
  | 10, _ => rfl
  | 11, _ => rfl
  | 12, _ => rfl
  | n + 13, h => absurd h (by omega)
theorem ov_lay_good (C : String) (T : u_T) (k : Nat) : goodWord (u_lay C T k) = true := by
  unfold u_lay
  split <;> rfl
theorem ov_lays {u : ov_U} (hu : ov_Ok u) {s : State} (hW : (ov_s0 u).WarmedH s.vm) (a : Array Value) {c : Nat} (hc : c < 13) : ∀ w ∈ u_ws (ov_cs c).1 (ov_cs c).2.1 (ov_cs c).2.2, w.before a s = true := by
  intro w hw
  have hm := ov_uall c hc w hw
  obtain ⟨k, -, rfl⟩ := List.mem_map.mp hw
  exact ov_word hu hW hm (ov_lay_good _ _ _) a
theorem ov_kn {u : ov_U} (hu : ov_Ok u) {s : State} (hW : (ov_s0 u).WarmedH s.vm) : va_K (ov_D u) ov_cl [] s := va_K.moved hW.alike hu.2.1
/-- field k of class number c, by the link idx of the class own -/
def ov_fl (own : String) (idx c k : Nat) : Prop := c < 13 ∧ k < (ov_cs c).2.2 ∧ Cond.fieldLink own idx ((ov_cs c).2.1 k).1 ((ov_cs c).2.1 k).2.1 ((ov_cs c).2.1 k).2.2.1 ∈ lw_tbl
def ov_fw (t : Nat) (x : Int) : ov_V := match t with
  | 1 => .inr (.inl x)
  | 2 => .inr (.inr x)
  | _ => .inl x
theorem ov_fw_tv (u : ov_U) (t : Nat) (x : Int) : ov_tv u (ov_fw t x) = ov_fv u t x := match t with
  | 0 => rfl
  | 1 => rfl
  | 2 => rfl
  | _ + 3 => rfl
theorem ov_rv_pos (u : ov_U) {a : Int} (h : 0 ≤ a) : ov_rv u a = .ref (ov_B u + a.toNat) := by
  unfold ov_rv ov_ad
  rw [if_neg (by omega), if_pos h]
/-- a cell that is there -/
theorem ov_cell {u : ov_U} {z : ov_Z} {h : ov_H} {H : Heap} (hR : ov_Rp u z h H) {a : Int} (h0 : 0 ≤ a) (h1 : a < z.1) : ov_co u (z.2.2 a) (h a) (ov_B u + a.toNat) H := by
  have := hR.2.2.2.2.2 a.toNat (by omega)
  rwa [Int.toNat_of_nonneg h0] at this
theorem ov_obj {u : ov_U} {z : ov_Z} {h : ov_H} {H : Heap} (hR : ov_Rp u z h H) {a : Int} {c n : Nat} (h0 : 0 ≤ a) (h1 : a < z.1) (hz : z.2.2 a = (5 + c, n)) : t_OB (ov_B u + a.toNat) ((ov_D u).1 c) (ov_nf c) ((ov_D u).2 c) H (fun k => ov_fv u (ov_ft c k) (h a (k : Int))) := by
  have := ov_cell hR h0 h1
  unfold ov_co at this
  rw [hz, if_neg (by show ¬ 5 + c < 5; omega)] at this
  have h2 := this.2
  simp only [Nat.add_sub_cancel_left] at h2
  exact h2
theorem ov_arr {u : ov_U} {z : ov_Z} {h : ov_H} {H : Heap} (hR : ov_Rp u z h H) {a : Int} {t n : Nat} (h0 : 0 ≤ a) (h1 : a < z.1) (hz : z.2.2 a = (t, n)) (ht : t < 5) : H[ov_B u + a.toNat]? = some (arrV (ov_AC u t) n (fun j => ov_el u t (h a (j : Int)))) := by
  have := ov_cell hR h0 h1
  unfold ov_co at this
  rw [hz, if_pos (by exact ht)] at this
  exact this
theorem ov_co_kept {u : ov_U} {s : Nat × Nat} {row : Int → Int} {A : Nat} {H H1 : Heap} (h : ov_co u s row A H) (e : H1[A]? = H[A]?) : ov_co u s row A H1 := by
  unfold ov_co at h ⊢
  split
  · rename_i hc
    rw [if_pos hc] at h
    rw [e]
    exact h
  · rename_i hc
    rw [if_neg hc] at h
    exact ⟨h.1, h.2.kept e⟩
def ov_up (h : ov_H) (a k x : Int) : ov_H := fun b j => if b = a ∧ j = k then x else h b j
theorem ov_up_ne {h : ov_H} {a k x b : Int} (hb : b ≠ a) : ov_up h a k x b = h b := by
  funext j
  simp [ov_up, hb]
/-- a store in one cell keeps the picture -/
theorem ov_Rp_put {u : ov_U} {z : ov_Z} {h : ov_H} {H H1 : Heap} (hR : ov_Rp u z h H) {a k x : Int} (h0 : 0 ≤ a) (h1 : a < z.1) (hs : H1.size = H.size) (hsum : ov_sum H1 = ov_sum H) (o : ∀ q : Nat, q ≠ ov_B u + a.toNat → H1[q]? = H[q]?) (hc : ov_co u (z.2.2 a) (ov_up h a k x a) (ov_B u + a.toNat) H1) : ov_Rp u z (ov_up h a k x) H1 := by
  refine ⟨hs.trans hR.1, hsum.trans hR.2.1, hR.2.2.1, hR.2.2.2.1, fun q hq => ?_, fun b hb => ?_⟩
  · rw [o q (by omega)]
    exact hR.2.2.2.2.1 q hq
  · by_cases hba : (b : Int) = a
    · have e : b = a.toNat := by omega
      rw [hba, e]
      exact hc
    · rw [ov_up_ne hba]
      exact ov_co_kept (hR.2.2.2.2.2 b hb) (o _ (by omega))
theorem ov_getf {u : ov_U} {d : Nat} {M : ov_M} {pc : Nat} {ls : List (Nat × ov_V)} {st : List ov_V} {z : ov_Z} {h : ov_H} {Q : Option ov_V → ov_Z → ov_H → Prop} {idx c k n : Nat} {a : Int} {v : ov_V} (hd : decode M.2.1 pc = .ok (.getfield idx, 3)) (fl : ov_fl M.1.cls idx c k) (h0 : 0 ≤ a ∧ a < z.1) (hz : z.2.2 a = (5 + c, n)) (hv : ov_fw (ov_ft c k) (h a k) = v) (kk : ov_R u d M (pc + 3) ls (v :: st) z h Q) : ov_R u d M pc ls (ov_r a :: st) z h Q := by
  intro hu p e s m args below meth c0 H locs cells slots lr n0 g0 C hRp hlocs hl
  have K := kk hu p e s m args below meth c0 H locs cells slots lr n0 g0 C hRp hlocs hl
  obtain ⟨hx, hb, hml, hret, hown, hlk, hnm, hW0, hn0, hg0⟩ := C
  obtain ⟨hc, hk, hm⟩ := fl
  obtain ⟨cell, q1, q2, q3, q4⟩ := ov_obj hRp h0.1 h0.2 hz
  obtain ⟨hS, hfc, kC, hkC, hkind⟩ := (ov_kn hu hW0).1 c _ (ov_clat c hc)
  obtain ⟨cf, kf, fi, f, hi, hsl⟩ := hS k hk
  simp only [List.map_cons, ov_tv] at K ⊢
  rw [ov_rv_pos u h0.1]
  refine W.getf hx hb hown (ov_word hu hW0 hm rfl args) hi (u_facts hfc hkC (u_lays (ov_lays hu hW0 args hc) (fun _ w => w) hk) hi).1 q1 (by rw [q3]; exact fun h => by cases h) (v := ov_tv u v) ?_ rfl rfl hd K
  rw [hsl, q4 k (by rw [← ov_cN c hc]; exact hk), ← hv, ov_fw_tv]
def ov_nk (t : Nat) (x : Int) : Prop := (t = 3 → x = 0 ∨ x = 1) ∧ (t = 4 → 0 ≤ x ∧ x ≤ 65535)
theorem ov_charok {x : Int} (h : 0 ≤ x ∧ x ≤ 65535) : narrow .char (.int (Int32.ofInt x)) = .int (Int32.ofInt x) ∧ fits .char (.int (Int32.ofInt x)) = true := by
  have e : Int32.ofInt x = nI x.toNat := by
    show _ = Int32.ofNat _
    rw [← Int32.ofInt_eq_ofNat, Int.toNat_of_nonneg h.1]
  rw [e]
  exact pk_charN (by omega)
theorem ov_nar {u : ov_U} {ty : FieldType} {t : Nat} {x : Int} (ht : ov_tyok ty t = true) (hx : ov_nk t x) : narrow ty (ov_fv u t x) = ov_fv u t x ∧ fits ty (ov_fv u t x) = true := by
  unfold ov_tyok at ht
  split at ht
  · exact ⟨rfl, rfl⟩
  · exact ⟨rfl, rfl⟩
  · refine ⟨rfl, ?_⟩
    show fits _ (ov_rv u x) = true
    unfold ov_rv
    split <;> rfl
  · refine ⟨rfl, ?_⟩
    show fits _ (ov_rv u x) = true
    unfold ov_rv
    split <;> rfl
  · rcases hx.1 rfl with rfl | rfl <;> exact ⟨rfl, rfl⟩
  · exact ov_charok (hx.2 rfl)
  · cases ht
theorem ov_putf {u : ov_U} {d : Nat} {M : ov_M} {pc : Nat} {ls : List (Nat × ov_V)} {st : List ov_V} {z : ov_Z} {h : ov_H} {Q : Option ov_V → ov_Z → ov_H → Prop} {idx c k n : Nat} {a x : Int} {v : ov_V} (hd : decode M.2.1 pc = .ok (.putfield idx, 3)) (fl : ov_fl M.1.cls idx c k) (h0 : 0 ≤ a ∧ a < z.1) (hz : z.2.2 a = (5 + c, n)) (hv : ov_fw (ov_ft c k) x = v) (hok : ov_nk (ov_ft c k) x) (hfin : ((ov_cs c).2.1 k).2.2.2 = false) (kk : ov_R u d M (pc + 3) ls st z (ov_up h a k x) Q) : ov_R u d M pc ls (v :: ov_r a :: st) z h Q := by
  intro hu p e s m args below meth c0 H locs cells slots lr n0 g0 C hRp hlocs hl
  have K := fun (H1 : Heap) (locs1 : List Loc) hR1 hl1 => kk hu p e s m args below meth c0 H1 locs1 cells slots lr n0 g0 C hR1 hl1 hl
  obtain ⟨hx, hb, hml, hret, hown, hlk, hnm, hW0, hn0, hg0⟩ := C
  obtain ⟨hc, hk, hm⟩ := fl
  have hob := ov_obj hRp h0.1 h0.2 hz
  obtain ⟨cell, q1, q2, q3, q4⟩ := hob
  have hts := ov_lays hu hW0 args hc
  have hap := va_apart (D := ov_D u) (tys := []) (own := M.1.cls) hts (fun _ w => w) (ov_yy c) (ov_kall c hc) (ov_nall c hc) (ov_kn hu hW0) (ov_clat c hc)
  have hN := ov_cN c hc
  obtain ⟨hS, hfc, kC, hkC, hkind⟩ := (ov_kn hu hW0).1 c _ (ov_clat c hc)
  obtain ⟨cf, kf, fi, f, hi, hsl⟩ := hS k hk
  have hlay := hts _ (u_in_lay hk)
  unfold u_lay at hlay
  have hst := (u_facts hfc hkC (u_lays hts (fun _ w => w) hk) hi).1
  have hnf := ov_nar (u := u) (ov_tyall c hc k (by rw [← hN]; exact hk)) hok
  have e9 : ov_tv u v = ov_fv u (ov_ft c k) x := by rw [← hv, ov_fw_tv]
  simp only [List.map_cons] at K ⊢
  rw [e9, show ov_tv u (ov_r a) = .ref (ov_B u + a.toNat) from ov_rv_pos u h0.1]
  rw [if_neg (by rw [hfin]; decide)] at hlay
  have h6 := u_store hfc hkC hkind hlay hi (ov_kall c hc k hk) hnf.1 hnf.2
  refine W.putK hx hb (f := f) ⟨hown, ov_word hu hW0 hm rfl args, ⟨_, _, _, hi⟩, hst⟩ (by rw [q2]; exact h6) q1 q3 (by rw [hsl]; exact k2_hasslot (q4 k (by rw [← hN]; exact hk))) rfl rfl hd fun H' e1 e2 e3 => ?_
  refine K H' _ (ov_Rp_put hRp h0.1 h0.2 e2 (ov_sum_put e2 q1 e1 e3) e3 ?_) (fun q hq => ?_)
  · unfold ov_co
    rw [hz, if_neg (by show ¬ 5 + c < 5; omega)]
    refine ⟨by show 5 + c < 18; omega, ?_⟩
    simp only [Nat.add_sub_cancel_left]
    rw [hN] at hap
    rw [hN] at hk
    rw [hsl] at e1
    refine t_OB.to (V := updV (fun k => ov_fv u (ov_ft c k) (h a (k : Int))) k (ov_fv u (ov_ft c k) x)) ⟨_, e1, q2, q3, t_set q4 hap hk _⟩ (fun j _ => ?_)
    by_cases hj : j = k
    · subst hj
      simp [updV, ov_up]
    · have : ¬ (j : Int) = (k : Int) := by omega
      simp [updV, ov_up, hj, this]
  · rcases List.mem_append.mp hq with hq | hq
    · exact hlocs q hq
    · rw [List.mem_singleton.mp hq]
      exact Nat.le_add_right _ _
theorem ov_putF {u : ov_U} {d : Nat} {M : ov_M} {pc : Nat} {ls : List (Nat × ov_V)} {st : List ov_V} {z : ov_Z} {h : ov_H} {Q : Option ov_V → ov_Z → ov_H → Prop} {idx c k n : Nat} {a x : Int} {v : ov_V} (hd : decode M.2.1 pc = .ok (.putfield idx, 3)) (fl : ov_fl M.1.cls idx c k) (h0 : 0 ≤ a ∧ a < z.1) (hz : z.2.2 a = (5 + c, n)) (hv : ov_fw (ov_ft c k) x = v) (hok : ov_nk (ov_ft c k) x) (hfin : ((ov_cs c).2.1 k).2.2.2 = true) (hini : M.1.name = "<init>") (hdecl : ((ov_cs c).2.1 k).1 = M.1.cls) (kk : ov_R u d M (pc + 3) ls st z (ov_up h a k x) Q) : ov_R u d M pc ls (v :: ov_r a :: st) z h Q := by
  intro hu p e s m args below meth c0 H locs cells slots lr n0 g0 C hRp hlocs hl
  have K := fun (H1 : Heap) (locs1 : List Loc) hR1 hl1 => kk hu p e s m args below meth c0 H1 locs1 cells slots lr n0 g0 C hR1 hl1 hl
  obtain ⟨hx, hb, hml, hret, hown, hlk, hnm, hW0, hn0, hg0⟩ := C
  obtain ⟨hc, hk, hm⟩ := fl
  have hob := ov_obj hRp h0.1 h0.2 hz
  obtain ⟨cell, q1, q2, q3, q4⟩ := hob
  have hts := ov_lays hu hW0 args hc
  have hap := va_apart (D := ov_D u) (tys := []) (own := M.1.cls) hts (fun _ w => w) (ov_yy c) (ov_kall c hc) (ov_nall c hc) (ov_kn hu hW0) (ov_clat c hc)
  have hN := ov_cN c hc
  obtain ⟨hS, hfc, kC, hkC, hkind⟩ := (ov_kn hu hW0).1 c _ (ov_clat c hc)
  obtain ⟨cf, kf, fi, f, hi, hsl⟩ := hS k hk
  have hlay := hts _ (u_in_lay hk)
  unfold u_lay at hlay
  have hst := (u_facts hfc hkC (u_lays hts (fun _ w => w) hk) hi).1
  have hnf := ov_nar (u := u) (ov_tyall c hc k (by rw [← hN]; exact hk)) hok
  have e9 : ov_tv u v = ov_fv u (ov_ft c k) x := by rw [← hv, ov_fw_tv]
  simp only [List.map_cons] at K ⊢
  rw [e9, show ov_tv u (ov_r a) = .ref (ov_B u + a.toNat) from ov_rv_pos u h0.1]
  rw [if_pos hfin] at hlay
  have hcf : m.cls = cf := by
    obtain ⟨_, _, c', _, _, _, -, -, hf', -, -, -, hown2, -⟩ := Cond.laysFinal_spec hlay
    have e1 : c' = cf := by have := hi.symm.trans hf'; simp at this; exact this.1.symm
    rw [hdecl] at hown2
    rw [← e1]; exact Option.some.inj (hown.symm.trans hown2)
  have h6 := u_fits hfc hkC hkind (Or.inr hlay) hi (ov_kall c hc k hk) hnf.1 hnf.2
  refine W.putFinK hx hb hown (ov_word hu hW0 hm rfl args) hi hst hcf (hnm.trans hini) (by rw [q2]; exact h6) q1 q3 (by rw [hsl]; exact k2_hasslot (q4 k (by rw [← hN]; exact hk))) rfl rfl hd fun H' e1 e2 e3 => ?_
  refine K H' _ (ov_Rp_put hRp h0.1 h0.2 e2 (ov_sum_put e2 q1 e1 e3) e3 ?_) (fun q hq => ?_)
  · unfold ov_co
    rw [hz, if_neg (by show ¬ 5 + c < 5; omega)]
    refine ⟨by show 5 + c < 18; omega, ?_⟩
    simp only [Nat.add_sub_cancel_left]
    rw [hN] at hap
    rw [hN] at hk
    rw [hsl] at e1
    refine t_OB.to (V := updV (fun k => ov_fv u (ov_ft c k) (h a (k : Int))) k (ov_fv u (ov_ft c k) x)) ⟨_, e1, q2, q3, t_set q4 hap hk _⟩ (fun j _ => ?_)
    by_cases hj : j = k
    · subst hj
      simp [updV, ov_up]
    · have : ¬ (j : Int) = (k : Int) := by omega
      simp [updV, ov_up, hj, this]
  · rcases List.mem_append.mp hq with hq | hq
    · exact hlocs q hq
    · rw [List.mem_singleton.mp hq]
      exact Nat.le_add_right _ _

/-! two contracts of one method at one heap hold at one end: the machine runs one way -/
theorem ov_T_and {u : ov_U} {d : Nat} {M : ov_M} {as : List ov_V} {z : ov_Z} {h : ov_H} {Q1 Q2 : Option ov_V → ov_Z → ov_H → Prop} (a : ov_T u d M as z h Q1) (b : ov_T u d M as z h Q2) :
    ov_T u d M as z h (fun r z' h' => Q1 r z' h' ∧ ∃ (r2 : Option ov_V) (z2 : ov_Z) (h2 : ov_H), Q2 r2 z2 h2 ∧ r.map (ov_tv u) = r2.map (ov_tv u) ∧ ∃ H : Heap, ov_Rp u z' h' H ∧ ov_Rp u z2 h2 H) := by
  intro hu
  have A : MetFree u.1 M.1 (headSpec (ov_ws M) (ov_rm u d z.1 z.2.1)) (ov_Pc u as z h) (fun _ _ _ _ _ => True) (fun a st o t => ov_Qc u Q1 a st o t ∧ ∃ L, FrameEnd st o t L (ov_K u - z.1) (ov_S u - z.2.1) ∧ ∀ q ∈ L, ov_B u ≤ q.base) := a hu
  have B : MetFree u.1 M.1 (headSpec (ov_ws M) (ov_rm u d z.1 z.2.1)) (ov_Pc u as z h) (fun _ _ _ _ _ => True) (fun a st o t => ov_Qc u Q2 a st o t ∧ ∃ L, FrameEnd st o t L (ov_K u - z.1) (ov_S u - z.2.1) ∧ ∀ q ∈ L, ov_B u ≤ q.base) := b hu
  have C := MetFree.all (G := Bool) (l := u.1) (x := M.1) (S := headSpec (ov_ws M) (ov_rm u d z.1 z.2.1)) (K := fun _ _ _ _ _ => True) (P := fun _ => ov_Pc u as z h)
    (Q := fun i a st o t => ov_Qc u (if i = true then Q1 else Q2) a st o t ∧ ∃ L, FrameEnd st o t L (ov_K u - z.1) (ov_S u - z.2.1) ∧ ∀ q ∈ L, ov_B u ≤ q.base)
    (fun i => by
      cases i
      · exact B
      · exact A)
  refine MetFree.mono C (fun _ _ hp => ⟨true, hp⟩) (fun _ _ _ _ _ hk => hk) (fun a st o t hP hq => ?_)
  have q1 := hq true hP
  have q2 := hq false hP
  rw [if_pos rfl] at q1
  rw [if_neg Bool.false_ne_true] at q2
  obtain ⟨⟨r1, z1, h1, e1, p1, R1, W1⟩, F1⟩ := q1
  obtain ⟨⟨r2, z2, h2, e2, p2, R2, -⟩, -⟩ := q2
  refine ⟨⟨r1, z1, h1, e1, ⟨p1, r2, z2, h2, p2, ?_, t.heap, R1, R2⟩, R1, W1⟩, F1⟩
  rw [e1] at e2
  exact Outcome.returned.inj e2
/-- .. of an int that both answer -/
theorem ov_T_ri {u : ov_U} {d : Nat} {M : ov_M} {as : List ov_V} {z : ov_Z} {h : ov_H} {Q1 Q2 : Int → ov_Z → ov_H → Prop} {X : Int → Prop} (a : ov_T u d M as z h (fun r0 z' h' => ∃ r : Int, r0 = some (ov_i r) ∧ Q1 r z' h')) (g1 : ∀ r z' h', Q1 r z' h' → ov_g r)
    (b : ov_T u d M as z h (fun r0 z' h' => ∃ r : Int, r0 = some (ov_i r) ∧ Q2 r z' h')) (g2 : ∀ r z' h', Q2 r z' h' → ov_g r ∧ X r) : ov_T u d M as z h (fun r0 z' h' => ∃ r : Int, r0 = some (ov_i r) ∧ Q1 r z' h' ∧ X r) := by
  intro hu
  refine MetFree.mono (ov_T_and a b hu) (fun _ _ hp => hp) (fun _ _ _ _ _ hk => hk) (fun a st o t _ hq => ?_)
  obtain ⟨⟨r0, z', h', e, ⟨⟨r, e1, q1⟩, r2, z2, h2, ⟨rr, e2, q2⟩, er, -⟩, R1, W1⟩, F1⟩ := hq
  refine ⟨⟨r0, z', h', e, ⟨r, e1, q1, ?_⟩, R1, W1⟩, F1⟩
  rw [e1, e2] at er
  have e3 : Int32.ofInt r = Int32.ofInt rr := Value.int.inj (Option.some.inj er)
  have e4 := congrArg Int32.toInt e3
  rw [ov_toInt (g1 _ _ _ q1), ov_toInt (g2 _ _ _ q2).1] at e4
  rw [e4]
  exact (g2 _ _ _ q2).2
/-- what one heap holds, two pictures say alike: an array's elements -/
theorem ov_sm_a {u : ov_U} {z z2 : ov_Z} {h h2 : ov_H} {H : Heap} (R1 : ov_Rp u z h H) (R2 : ov_Rp u z2 h2 H) {a : Int} (h0 : 0 ≤ a) (h1 : a < z.1) {t n : Nat} (s1 : z.2.2 a = (t, n)) (s2 : z2.2.2 a = (t, n)) (ht : t < 5) {j : Int} (j0 : 0 ≤ j) (j1 : j < n) : ov_el u t (h a j) = ov_el u t (h2 a j) := by
  have hz : z2.1 = z.1 := by
    have e1 := R1.1
    have e2 := R2.1
    omega
  have e := (ov_arr R1 h0 h1 s1 ht).symm.trans (ov_arr R2 h0 (by omega) s2 ht)
  have e2 := Option.some.inj e
  have k1 := arrV_read (ov_AC u t) (fun i : Nat => ov_el u t (h a (i : Int))) (show j.toNat < n by omega)
  rw [e2, arrV_read _ _ (show j.toNat < n by omega)] at k1
  have k2 : ov_el u t (h2 a ((j.toNat : Nat) : Int)) = ov_el u t (h a ((j.toNat : Nat) : Int)) := Option.some.inj k1
  rw [Int.toNat_of_nonneg j0] at k2
  exact k2.symm
theorem ov_el_i {u : ov_U} {x y : Int} (e : ov_el u 0 x = ov_el u 0 y) (gx : ov_g x) (gy : ov_g y) : x = y := by
  have e3 : Int32.ofInt x = Int32.ofInt y := Value.int.inj e
  have e4 := congrArg Int32.toInt e3
  rwa [ov_toInt gx, ov_toInt gy] at e4
theorem ov_el_z {u : ov_U} {x y : Int} (e : ov_el u 3 x = ov_el u 3 y) (gx : ov_g x) (gy : ov_g y) : x = y := by
  have e3 : Int32.ofInt x = Int32.ofInt y := Value.int.inj e
  have e4 := congrArg Int32.toInt e3
  rwa [ov_toInt gx, ov_toInt gy] at e4
/-- two contracts of an int: what follows from both pictures -/
theorem ov_T_rx {u : ov_U} {d : Nat} {M : ov_M} {as : List ov_V} {z : ov_Z} {h : ov_H} {Q1 Q2 X : Int → ov_Z → ov_H → Prop} (a : ov_T u d M as z h (fun r0 z' h' => ∃ r : Int, r0 = some (ov_i r) ∧ Q1 r z' h'))
    (b : ov_T u d M as z h (fun r0 z' h' => ∃ r : Int, r0 = some (ov_i r) ∧ Q2 r z' h')) (k : ∀ (r : Int) (z' : ov_Z) (h' : ov_H) (r2 : Int) (z2 : ov_Z) (h2 : ov_H) (H : Heap), Q1 r z' h' → Q2 r2 z2 h2 → Int32.ofInt r = Int32.ofInt r2 → ov_Rp u z' h' H → ov_Rp u z2 h2 H → X r z' h') : ov_T u d M as z h (fun r0 z' h' => ∃ r : Int, r0 = some (ov_i r) ∧ Q1 r z' h' ∧ X r z' h') := by
  intro hu
  refine MetFree.mono (ov_T_and a b hu) (fun _ _ hp => hp) (fun _ _ _ _ _ hk => hk) (fun a st o t _ hq => ?_)
  obtain ⟨⟨r0, z', h', e, ⟨⟨r, e1, q1⟩, r2, z2, h2, ⟨rr, e2, q2⟩, er, H, P1, P2⟩, R1, W1⟩, F1⟩ := hq
  refine ⟨⟨r0, z', h', e, ⟨r, e1, q1, ?_⟩, R1, W1⟩, F1⟩
  rw [e1, e2] at er
  exact k r z' h' rr z2 h2 H q1 q2 (Value.int.inj (Option.some.inj er)) P1 P2
theorem ov_i32 {x y : Int} (e3 : Int32.ofInt x = Int32.ofInt y) (gx : ov_g x) (gy : ov_g y) : x = y := by
  have e4 := congrArg Int32.toInt e3
  rwa [ov_toInt gx, ov_toInt gy] at e4
/-! F strengthened by the rows of M as they stand -/
def ov_ff (M : Nat) (F h : ov_H) : ov_H := fun a => if a = -6 then (fun b => if Nat.testBit M b.toNat = true then 1 else F (-6) b) else if Nat.testBit M a.toNat = true ∧ 0 ≤ a then h a else F a
theorem ov_ff_6 {M : Nat} {F h : ov_H} {b : Int} : ov_ff M F h (-6) b = if Nat.testBit M b.toNat = true then 1 else F (-6) b := by
  unfold ov_ff
  rw [if_pos rfl]
theorem ov_ff_n {M : Nat} {F h : ov_H} {a : Int} (ha : ¬ a = -6) (e : ¬ (Nat.testBit M a.toNat = true ∧ 0 ≤ a)) : ov_ff M F h a = F a := by
  unfold ov_ff
  rw [if_neg ha, if_neg e]
theorem ov_ff_y {M : Nat} {F h : ov_H} {a : Int} (h0 : 0 ≤ a) (e : Nat.testBit M a.toNat = true) : ov_ff M F h a = h a := by
  unfold ov_ff
  rw [if_neg (by omega), if_pos ⟨e, h0⟩]
theorem ov_I_ff {M : Nat} {F : ov_H} {z : ov_Z} {h : ov_H} (I : ov_I F z h) : ov_I (ov_ff M F h) z h := by
  refine ⟨I.1, fun b h0 h1 => ?_, fun T hT hf => I.2.2.1 T hT ?_, fun b hb e => ?_⟩
  · by_cases y : Nat.testBit M b.toNat = true
    · rw [ov_ff_y (by omega) y]
    · rw [ov_ff_n (by omega) (fun q => y q.1)]
      exact I.2.1 b h0 h1
  · rw [ov_ff_n (by decide) (fun q => absurd q.2 (by decide))] at hf
    exact hf
  · have h0 : 0 ≤ b := by unfold ov_kq at hb; omega
    by_cases y : Nat.testBit M b.toNat = true
    · rw [ov_ff_y h0 y]
    · rw [ov_ff_6, if_neg y] at e
      rw [ov_ff_n (by omega) (fun q => y q.1)]
      exact I.2.2.2 b hb e
theorem ov_I_fr {M : Nat} {F : ov_H} {z z' : ov_Z} {h h' : ov_H} (I : ov_I F z h) (I' : ov_I (ov_ff M F h) z' h') : ov_I F z' h' := by
  refine ⟨I'.1, fun b h0 h1 => ?_, fun T hT hf => I'.2.2.1 T hT ?_, fun b hb e => ?_⟩
  · have q := I'.2.1 b h0 h1
    by_cases y : Nat.testBit M b.toNat = true
    · rw [ov_ff_y (by omega) y] at q
      exact q.trans (I.2.1 b h0 h1)
    · rw [ov_ff_n (by omega) (fun q => y q.1)] at q
      exact q
  · rw [ov_ff_n (by decide) (fun q => absurd q.2 (by decide))]
    exact hf
  · have h0 : 0 ≤ b := by unfold ov_kq at hb; omega
    have q := I'.2.2.2 b hb (by
      rw [ov_ff_6]
      split
      · rfl
      · exact e)
    by_cases y : Nat.testBit M b.toNat = true
    · rw [ov_ff_y h0 y] at q
      exact q.trans (I.2.2.2 b hb e)
    · rw [ov_ff_n (by omega) (fun q => y q.1)] at q
      exact q
theorem ov_ff_k {M : Nat} {F h h' : ov_H} {z' : ov_Z} {b : Int} (I' : ov_I (ov_ff M F h) z' h') (hb : ov_kq b) (e : Nat.testBit M b.toNat = true) : h' b = h b := (I'.2.2.2 b hb (by rw [ov_ff_6, if_pos e])).trans (ov_ff_y (by unfold ov_kq at hb; omega) e)
theorem ov_kw_ff {m M : Nat} {F h : ov_H} (hw : ov_kw m F) (e : m &&& M = 0) : ov_kw m (ov_ff M F h) := fun b q w => by
  rw [ov_ff_6] at w
  by_cases y : Nat.testBit M b.toNat = true
  · have z : Nat.testBit (m &&& M) b.toNat = true := by rw [Nat.testBit_and, q, y]; rfl
    rw [e, Nat.zero_testBit] at z
    exact absurd z Bool.false_ne_true
  · rw [if_neg y] at w
    exact hw b q w

/-! two contracts of one method at one heap hold at one end: the machine runs one way -/
theorem ov_T_and {u : ov_U} {d : Nat} {M : ov_M} {as : List ov_V} {z : ov_Z} {h : ov_H} {Q1 Q2 : Option ov_V → ov_Z → ov_H → Prop} (a : ov_T u d M as z h Q1) (b : ov_T u d M as z h Q2) :
    ov_T u d M as z h (fun r z' h' => Q1 r z' h' ∧ ∃ (r2 : Option ov_V) (z2 : ov_Z) (h2 : ov_H), Q2 r2 z2 h2 ∧ r.map (ov_tv u) = r2.map (ov_tv u) ∧ ∃ H : Heap, ov_Rp u z' h' H ∧ ov_Rp u z2 h2 H) := by
  intro hu
  have A : MetFree u.1 M.1 (headSpec (ov_ws M) (ov_rm u d z.1 z.2.1)) (ov_Pc u as z h) (fun _ _ _ _ _ => True) (fun a st o t => ov_Qc u Q1 a st o t ∧ ∃ L, FrameEnd st o t L (ov_K u - z.1) (ov_S u - z.2.1) ∧ ∀ q ∈ L, ov_B u ≤ q.base) := a hu
  have B : MetFree u.1 M.1 (headSpec (ov_ws M) (ov_rm u d z.1 z.2.1)) (ov_Pc u as z h) (fun _ _ _ _ _ => True) (fun a st o t => ov_Qc u Q2 a st o t ∧ ∃ L, FrameEnd st o t L (ov_K u - z.1) (ov_S u - z.2.1) ∧ ∀ q ∈ L, ov_B u ≤ q.base) := b hu
  have C := MetFree.all (G := Bool) (l := u.1) (x := M.1) (S := headSpec (ov_ws M) (ov_rm u d z.1 z.2.1)) (K := fun _ _ _ _ _ => True) (P := fun _ => ov_Pc u as z h)
    (Q := fun i a st o t => ov_Qc u (if i = true then Q1 else Q2) a st o t ∧ ∃ L, FrameEnd st o t L (ov_K u - z.1) (ov_S u - z.2.1) ∧ ∀ q ∈ L, ov_B u ≤ q.base)
    (fun i => by
      cases i
      · exact B
      · exact A)
  refine MetFree.mono C (fun _ _ hp => ⟨true, hp⟩) (fun _ _ _ _ _ hk => hk) (fun a st o t hP hq => ?_)
  have q1 := hq true hP
  have q2 := hq false hP
  rw [if_pos rfl] at q1
  rw [if_neg Bool.false_ne_true] at q2
  obtain ⟨⟨r1, z1, h1, e1, p1, R1, W1⟩, F1⟩ := q1
  obtain ⟨⟨r2, z2, h2, e2, p2, R2, -⟩, -⟩ := q2
  refine ⟨⟨r1, z1, h1, e1, ⟨p1, r2, z2, h2, p2, ?_, t.heap, R1, R2⟩, R1, W1⟩, F1⟩
  rw [e1] at e2
  exact Outcome.returned.inj e2
/-- .. of an int that both answer -/
theorem ov_T_ri {u : ov_U} {d : Nat} {M : ov_M} {as : List ov_V} {z : ov_Z} {h : ov_H} {Q1 Q2 : Int → ov_Z → ov_H → Prop} {X : Int → Prop} (a : ov_T u d M as z h (fun r0 z' h' => ∃ r : Int, r0 = some (ov_i r) ∧ Q1 r z' h')) (g1 : ∀ r z' h', Q1 r z' h' → ov_g r)
    (b : ov_T u d M as z h (fun r0 z' h' => ∃ r : Int, r0 = some (ov_i r) ∧ Q2 r z' h')) (g2 : ∀ r z' h', Q2 r z' h' → ov_g r ∧ X r) : ov_T u d M as z h (fun r0 z' h' => ∃ r : Int, r0 = some (ov_i r) ∧ Q1 r z' h' ∧ X r) := by
  intro hu
  refine MetFree.mono (ov_T_and a b hu) (fun _ _ hp => hp) (fun _ _ _ _ _ hk => hk) (fun a st o t _ hq => ?_)
  obtain ⟨⟨r0, z', h', e, ⟨⟨r, e1, q1⟩, r2, z2, h2, ⟨rr, e2, q2⟩, er, -⟩, R1, W1⟩, F1⟩ := hq
  refine ⟨⟨r0, z', h', e, ⟨r, e1, q1, ?_⟩, R1, W1⟩, F1⟩
  rw [e1, e2] at er
  have e3 : Int32.ofInt r = Int32.ofInt rr := Value.int.inj (Option.some.inj er)
  have e4 := congrArg Int32.toInt e3
  rw [ov_toInt (g1 _ _ _ q1), ov_toInt (g2 _ _ _ q2).1] at e4
  rw [e4]
  exact (g2 _ _ _ q2).2

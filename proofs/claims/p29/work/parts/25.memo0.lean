/-! the memos' rows: made anew as they grow -/
theorem ov_nw_lt {h : ov_H} {n : Nat} {row : Int → Int} (hn : 115 ≤ n) {a : Int} (ha : a < 115) : ov_nw h (n : Int) row a = h a := by
  unfold ov_nw
  rw [if_neg (by omega)]
theorem ov_um_lt {h : ov_H} {b k x : Int} {c : Int} (hb : b = c ∨ 115 ≤ b) {a : Int} (ha : a < 115) (hc : a ≠ c) (j : Int) : ov_up h b k x a j = h a j := by
  rw [ov_up_ne (by omega)]
theorem ov_I_um {F : ov_H} {z : ov_Z} {h : ov_H} {b k x : Int} (I : ov_I F z h) (hb : b = 38 ∨ b = 41 ∨ b = 52 ∨ 115 ≤ b) : ov_I F z (ov_up h b k x) := by
  refine ⟨⟨I.1.1, fun a j h0 h1 => ?_, ?_⟩, fun a h0 h1 => ?_, fun T hT hf => by rw [ov_up_ne (by omega : T ≠ b)]; exact I.2.2.1 T hT hf, fun a ha e => by rw [ov_up_ne (by unfold ov_kq at ha; omega : a ≠ b)]; exact I.2.2.2 a ha e⟩
  · unfold ov_up
    split
    · rename_i hc
      rw [hc.1]
      rcases hb with rfl | rfl | rfl | hb
      · trivial
      · trivial
      · trivial
      · exact absurd h1 (by omega)
    · exact I.1.2.1 a j h0 h1
  · obtain ⟨n1, n2, n3, hh⟩ := I.1.2.2
    refine ⟨n1, n2, n3, ?_⟩
    rw [ov_up_ne (by omega : (37 : Int) ≠ b), ov_up_ne (by omega : (40 : Int) ≠ b), ov_up_ne (by omega : (51 : Int) ≠ b)]
    exact hh
  · rw [ov_up_ne (by omega : a ≠ b)]
    exact I.2.1 a h0 h1
theorem mm_37 {F : ov_H} {z : ov_Z} {h : ov_H} (I : ov_I F z h) : (0 ≤ h 37 0 ∧ h 37 0 < z.1) ∧ z.2.2 (h 37 0) = (1, (z.2.2 (h 37 0)).2) ∧ (z.2.2 (h 37 0)).2 ≤ 129600 ∧ (h 37 0 = 38 ∨ 115 ≤ h 37 0) := by
  obtain ⟨n1, n2, n3, ⟨a1, a2, a3, a4⟩, -⟩ := I.1.2.2
  rw [a1]
  exact ⟨⟨by omega, a3⟩, rfl, a4, a2⟩
theorem mm_40 {F : ov_H} {z : ov_Z} {h : ov_H} (I : ov_I F z h) : (0 ≤ h 40 0 ∧ h 40 0 < z.1) ∧ z.2.2 (h 40 0) = (1, (z.2.2 (h 40 0)).2) ∧ (z.2.2 (h 40 0)).2 ≤ 125064 ∧ (h 40 0 = 41 ∨ 115 ≤ h 40 0) := by
  obtain ⟨n1, n2, n3, -, ⟨a1, a2, a3, a4⟩, -⟩ := I.1.2.2
  rw [a1]
  exact ⟨⟨by omega, a3⟩, rfl, a4, a2⟩
theorem mm_51 {F : ov_H} {z : ov_Z} {h : ov_H} (I : ov_I F z h) : (0 ≤ h 51 0 ∧ h 51 0 < z.1) ∧ z.2.2 (h 51 0) = (1, (z.2.2 (h 51 0)).2) ∧ (z.2.2 (h 51 0)).2 ≤ 312000 ∧ (h 51 0 = 52 ∨ 115 ≤ h 51 0) := by
  obtain ⟨n1, n2, n3, -, -, ⟨a1, a2, a3, a4⟩, -⟩ := I.1.2.2
  rw [a1]
  exact ⟨⟨by omega, a3⟩, rfl, a4, a2⟩
/-- there is room for a longer row -/
theorem ov_mroom {u : ov_U} {F : ov_H} {z : ov_Z} {h : ov_H} (U : ov_cap u) (I : ov_I F z h) {n : Int} (hn : 0 ≤ n ∧ n ≤ 312000) : z.1 + 1 ≤ ov_K u ∧ z.2.1 + n.toNat ≤ ov_S u := by
  obtain ⟨n1, n2, n3, ⟨-, -, -, a4⟩, ⟨-, -, -, b4⟩, ⟨-, -, -, c4⟩, e1, e2⟩ := I.1.2.2
  rw [U.1, U.2.1]
  omega
theorem mk_37 {F : ov_H} {z : ov_Z} {h : ov_H} (I : ov_I F z h) {n : Int} (hn : ((z.2.2 (h 37 0)).2 : Int) < n) (h2 : 2 * ((z.2.2 (h 37 0)).2 : Int) ≤ n) (hc : n ≤ 129600) : ov_I F (ov_zn z (1, n.toNat)) (ov_up (ov_nw h (z.1 : Int) (fun _ => 0)) 37 0 (z.1 : Int)) := by
  have z1 := I.1.1.1
  obtain ⟨n1, n2, n3, hh⟩ := I.1.2.2
  obtain ⟨⟨a1, a2, a3, a4⟩, ⟨b1, b2, b3, b4⟩, ⟨c1, c2, c3, c4⟩, e1, e2⟩ := hh
  have el : (z.2.2 (h 37 0)).2 = n1 := by rw [a1]
  rw [el] at hn h2
  have key : ∀ b : Int, b < z.1 → (ov_zn z (1, n.toNat)).2.2 b = z.2.2 b := fun b hb => by
    show (if b = (z.1 : Int) then _ else _) = _
    rw [if_neg (by omega)]
  refine ⟨⟨⟨by show 115 ≤ z.1 + 1; omega, fun a h0 h1 => ?_⟩, fun a k h0 h1 => ?_, ?_⟩, fun a h0 h1 => by rw [ov_up_ne (by omega), ov_nw_lt z1 h1]; exact I.2.1 a h0 h1, fun T hT hf => by rw [ov_up_ne (by omega), ov_nw_lt z1 (by omega)]; exact I.2.2.1 T hT hf, fun a ha e => by rw [ov_up_ne (by unfold ov_kq at ha; omega), ov_nw_lt z1 (by unfold ov_kq at ha; omega)]; exact I.2.2.2 a ha e⟩
  · rw [key a (by omega)]
    exact I.1.1.2 a h0 h1
  · unfold ov_up
    split
    · rename_i hq
      rw [hq.1, hq.2]
      have w := I.1.2.1 37 0 (by decide) (by decide)
      exact ⟨fun e => absurd e (by decide), fun e => absurd e (by decide)⟩
    · rw [ov_nw_lt z1 h1]
      exact I.1.2.1 a k h0 h1
  · refine ⟨n.toNat, n2, n3, ?_⟩
    have r0 : ov_up (ov_nw h (z.1 : Int) (fun _ => 0)) 37 0 (z.1 : Int) 37 0 = (z.1 : Int) := by simp [ov_up]
    have r1 : ov_up (ov_nw h (z.1 : Int) (fun _ => 0)) 37 0 (z.1 : Int) 40 0 = h 40 0 := by rw [ov_up_ne (by decide), ov_nw_lt z1 (by decide)]
    have r2 : ov_up (ov_nw h (z.1 : Int) (fun _ => 0)) 37 0 (z.1 : Int) 51 0 = h 51 0 := by rw [ov_up_ne (by decide), ov_nw_lt z1 (by decide)]
    rw [r0, r1, r2]
    exact ⟨⟨by show (if (z.1 : Int) = (z.1 : Int) then _ else _) = _; rw [if_pos rfl], Or.inr (by omega), by show (z.1 : Int) < ((z.1 + 1 : Nat) : Int); omega, by omega⟩, ⟨by rw [key _ b3]; exact b1, b2, by show _ < ((z.1 + 1 : Nat) : Int); omega, b4⟩, ⟨by rw [key _ c3]; exact c1, c2, by show _ < ((z.1 + 1 : Nat) : Int); omega, c4⟩, by show z.1 + 1 ≤ _; omega, by show z.2.1 + n.toNat ≤ _; omega⟩
theorem mk_40 {F : ov_H} {z : ov_Z} {h : ov_H} (I : ov_I F z h) {n : Int} (hn : ((z.2.2 (h 40 0)).2 : Int) < n) (h2 : 2 * ((z.2.2 (h 40 0)).2 : Int) ≤ n) (hc : n ≤ 125064) : ov_I F (ov_zn z (1, n.toNat)) (ov_up (ov_nw h (z.1 : Int) (fun _ => 0)) 40 0 (z.1 : Int)) := by
  have z1 := I.1.1.1
  obtain ⟨n1, n2, n3, hh⟩ := I.1.2.2
  obtain ⟨⟨a1, a2, a3, a4⟩, ⟨b1, b2, b3, b4⟩, ⟨c1, c2, c3, c4⟩, e1, e2⟩ := hh
  have el : (z.2.2 (h 40 0)).2 = n2 := by rw [b1]
  rw [el] at hn h2
  have key : ∀ b : Int, b < z.1 → (ov_zn z (1, n.toNat)).2.2 b = z.2.2 b := fun b hb => by
    show (if b = (z.1 : Int) then _ else _) = _
    rw [if_neg (by omega)]
  refine ⟨⟨⟨by show 115 ≤ z.1 + 1; omega, fun a h0 h1 => ?_⟩, fun a k h0 h1 => ?_, ?_⟩, fun a h0 h1 => by rw [ov_up_ne (by omega), ov_nw_lt z1 h1]; exact I.2.1 a h0 h1, fun T hT hf => by rw [ov_up_ne (by omega), ov_nw_lt z1 (by omega)]; exact I.2.2.1 T hT hf, fun a ha e => by rw [ov_up_ne (by unfold ov_kq at ha; omega), ov_nw_lt z1 (by unfold ov_kq at ha; omega)]; exact I.2.2.2 a ha e⟩
  · rw [key a (by omega)]
    exact I.1.1.2 a h0 h1
  · unfold ov_up
    split
    · rename_i hq
      rw [hq.1, hq.2]
      have w := I.1.2.1 40 0 (by decide) (by decide)
      exact ⟨fun e => absurd e (by decide), fun e => absurd e (by decide)⟩
    · rw [ov_nw_lt z1 h1]
      exact I.1.2.1 a k h0 h1
  · refine ⟨n1, n.toNat, n3, ?_⟩
    have r0 : ov_up (ov_nw h (z.1 : Int) (fun _ => 0)) 40 0 (z.1 : Int) 37 0 = h 37 0 := by rw [ov_up_ne (by decide), ov_nw_lt z1 (by decide)]
    have r1 : ov_up (ov_nw h (z.1 : Int) (fun _ => 0)) 40 0 (z.1 : Int) 40 0 = (z.1 : Int) := by simp [ov_up]
    have r2 : ov_up (ov_nw h (z.1 : Int) (fun _ => 0)) 40 0 (z.1 : Int) 51 0 = h 51 0 := by rw [ov_up_ne (by decide), ov_nw_lt z1 (by decide)]
    rw [r0, r1, r2]
    exact ⟨⟨by rw [key _ a3]; exact a1, a2, by show _ < ((z.1 + 1 : Nat) : Int); omega, a4⟩, ⟨by show (if (z.1 : Int) = (z.1 : Int) then _ else _) = _; rw [if_pos rfl], Or.inr (by omega), by show (z.1 : Int) < ((z.1 + 1 : Nat) : Int); omega, by omega⟩, ⟨by rw [key _ c3]; exact c1, c2, by show _ < ((z.1 + 1 : Nat) : Int); omega, c4⟩, by show z.1 + 1 ≤ _; omega, by show z.2.1 + n.toNat ≤ _; omega⟩
theorem mk_51 {F : ov_H} {z : ov_Z} {h : ov_H} (I : ov_I F z h) {n : Int} (hn : ((z.2.2 (h 51 0)).2 : Int) < n) (h2 : 2 * ((z.2.2 (h 51 0)).2 : Int) ≤ n) (hc : n ≤ 312000) : ov_I F (ov_zn z (1, n.toNat)) (ov_up (ov_nw h (z.1 : Int) (fun _ => 0)) 51 0 (z.1 : Int)) := by
  have z1 := I.1.1.1
  obtain ⟨n1, n2, n3, hh⟩ := I.1.2.2
  obtain ⟨⟨a1, a2, a3, a4⟩, ⟨b1, b2, b3, b4⟩, ⟨c1, c2, c3, c4⟩, e1, e2⟩ := hh
  have el : (z.2.2 (h 51 0)).2 = n3 := by rw [c1]
  rw [el] at hn h2
  have key : ∀ b : Int, b < z.1 → (ov_zn z (1, n.toNat)).2.2 b = z.2.2 b := fun b hb => by
    show (if b = (z.1 : Int) then _ else _) = _
    rw [if_neg (by omega)]
  refine ⟨⟨⟨by show 115 ≤ z.1 + 1; omega, fun a h0 h1 => ?_⟩, fun a k h0 h1 => ?_, ?_⟩, fun a h0 h1 => by rw [ov_up_ne (by omega), ov_nw_lt z1 h1]; exact I.2.1 a h0 h1, fun T hT hf => by rw [ov_up_ne (by omega), ov_nw_lt z1 (by omega)]; exact I.2.2.1 T hT hf, fun a ha e => by rw [ov_up_ne (by unfold ov_kq at ha; omega), ov_nw_lt z1 (by unfold ov_kq at ha; omega)]; exact I.2.2.2 a ha e⟩
  · rw [key a (by omega)]
    exact I.1.1.2 a h0 h1
  · unfold ov_up
    split
    · rename_i hq
      rw [hq.1, hq.2]
      have w := I.1.2.1 51 0 (by decide) (by decide)
      exact ⟨fun e => absurd e (by decide), fun e => absurd e (by decide)⟩
    · rw [ov_nw_lt z1 h1]
      exact I.1.2.1 a k h0 h1
  · refine ⟨n1, n2, n.toNat, ?_⟩
    have r0 : ov_up (ov_nw h (z.1 : Int) (fun _ => 0)) 51 0 (z.1 : Int) 37 0 = h 37 0 := by rw [ov_up_ne (by decide), ov_nw_lt z1 (by decide)]
    have r1 : ov_up (ov_nw h (z.1 : Int) (fun _ => 0)) 51 0 (z.1 : Int) 40 0 = h 40 0 := by rw [ov_up_ne (by decide), ov_nw_lt z1 (by decide)]
    have r2 : ov_up (ov_nw h (z.1 : Int) (fun _ => 0)) 51 0 (z.1 : Int) 51 0 = (z.1 : Int) := by simp [ov_up]
    rw [r0, r1, r2]
    exact ⟨⟨by rw [key _ a3]; exact a1, a2, by show _ < ((z.1 + 1 : Nat) : Int); omega, a4⟩, ⟨by rw [key _ b3]; exact b1, b2, by show _ < ((z.1 + 1 : Nat) : Int); omega, b4⟩, ⟨by show (if (z.1 : Int) = (z.1 : Int) then _ else _) = _; rw [if_pos rfl], Or.inr (by omega), by show (z.1 : Int) < ((z.1 + 1 : Nat) : Int); omega, by omega⟩, by show z.1 + 1 ≤ _; omega, by show z.2.1 + n.toNat ≤ _; omega⟩

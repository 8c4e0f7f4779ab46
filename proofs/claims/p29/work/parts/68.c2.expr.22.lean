theorem c_fReader_readExpression_3_k3_1_70_both {u : ov_U} {F : ov_H} : ∀ k : Nat, (∀ {z : ov_Z} {h : ov_H} (t : Int → Int) (m p : Int) (d : Nat) (hd : (10 + 5 * k + 4) ≤ d) (U : ov_cap u) (I : ov_I F z h) (hw : ov_kw 1210106411235346586009610 F) (dep : Int) (k0 : h 3 1 = 70) (g_dep : ov_g dep) (p0 : 0 ≤ dep ∧ dep + (k : Int) = 5) (et : (h 2) = t) (tc : pt_TC t m (h 1) p), ov_T u d ov_m69 [ov_r 3, ov_i dep] z h (P_fReader_readExpression_3_k3_1_70 F z h t m p dep)) ∧ (∀ {z : ov_Z} {h : ov_H} (t : Int → Int) (m p : Int) (d : Nat) (hd : (10 + 5 * k + 0) ≤ d) (U : ov_cap u) (I : ov_I F z h) (hw : ov_kw 1210106411235346586009610 F) (dep : Int) (k0 : h 3 1 = 70) (g_dep : ov_g dep) (p0 : 0 ≤ dep ∧ dep + (k : Int) = 5) (et : (h 2) = t) (tc : pt_TC t m (h 1) p), ov_T u d ov_m73 [ov_r 3, ov_i dep] z h (P_fReader_readPart_3_k3_1_70 F z h t m p dep)) := by
  intro k
  induction k with
  | zero => exact ⟨fun {z} {h} t m p => c_fReader_readExpression_3_k3_1_70 t m p 0 (fun k' e => by omega) (fun k' e => by omega), fun {z} {h} t m p => c_fReader_readPart_3_k3_1_70 t m p 0 (fun k' e => by omega) (fun k' e => by omega)⟩
  | succ k ih =>
    obtain ⟨i1, i2⟩ := ih
    have HE : ∀ k' : Nat, k' + 1 = k + 1 → ∀ {z : ov_Z} {h : ov_H} (t : Int → Int) (m p : Int) (d : Nat) (hd : (10 + 5 * k' + 4) ≤ d) (U : ov_cap u) (I : ov_I F z h) (hw : ov_kw 1210106411235346586009610 F) (dep : Int) (k0 : h 3 1 = 70) (g_dep : ov_g dep) (p0 : 0 ≤ dep ∧ dep + (k' : Int) = 5) (et : (h 2) = t) (tc : pt_TC t m (h 1) p), ov_T u d ov_m69 [ov_r 3, ov_i dep] z h (P_fReader_readExpression_3_k3_1_70 F z h t m p dep) := fun k' e => by
      have e2 : k' = k := by omega
      rw [e2]
      exact fun {z} {h} => @i1 z h
    have HP : ∀ k' : Nat, k' + 1 = k + 1 → ∀ {z : ov_Z} {h : ov_H} (t : Int → Int) (m p : Int) (d : Nat) (hd : (10 + 5 * k' + 0) ≤ d) (U : ov_cap u) (I : ov_I F z h) (hw : ov_kw 1210106411235346586009610 F) (dep : Int) (k0 : h 3 1 = 70) (g_dep : ov_g dep) (p0 : 0 ≤ dep ∧ dep + (k' : Int) = 5) (et : (h 2) = t) (tc : pt_TC t m (h 1) p), ov_T u d ov_m73 [ov_r 3, ov_i dep] z h (P_fReader_readPart_3_k3_1_70 F z h t m p dep) := fun k' e => by
      have e2 : k' = k := by omega
      rw [e2]
      exact fun {z} {h} => @i2 z h
    exact ⟨fun {z} {h} t m p => c_fReader_readExpression_3_k3_1_70 t m p (k + 1) HE HP, fun {z} {h} t m p => c_fReader_readPart_3_k3_1_70 t m p (k + 1) HE HP⟩
theorem c_fReader_readExpression_3_k3_1_70_all {u : ov_U} {F : ov_H} (t : Int → Int) (m p : Int) (k : Nat) : ∀ {z : ov_Z} {h : ov_H} (d : Nat) (hd : (10 + 5 * k + 4) ≤ d) (U : ov_cap u) (I : ov_I F z h) (hw : ov_kw 1210106411235346586009610 F) (dep : Int) (k0 : h 3 1 = 70) (g_dep : ov_g dep) (p0 : 0 ≤ dep ∧ dep + (k : Int) = 5) (et : (h 2) = t) (tc : pt_TC t m (h 1) p), ov_T u d ov_m69 [ov_r 3, ov_i dep] z h (P_fReader_readExpression_3_k3_1_70 F z h t m p dep) := fun {z} {h} => @(c_fReader_readExpression_3_k3_1_70_both k).1 z h t m p

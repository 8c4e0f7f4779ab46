theorem c_fMo_all_90_both {u : ov_U} {F : ov_H × ov_Z} : ∀ k : Nat, (∀ {z : ov_Z} {h : ov_H} (t : Int → Int) (m N p : Int) (d : Nat) (hd : (10 + 5 * k + 4) ≤ d) (U : ov_cap u) (I : ov_N F z h) (dep : Int) (g_dep : ov_g dep) (p0 : 0 ≤ (h 90 7) ∧ (h 90 7) ≤ N) (p1 : (h 93 ((h 90 7))) = p) (p2 : 0 ≤ (h 90 8)) (p3 : 0 ≤ dep ∧ dep + (k : Int) = 5) (p4 : 0 ≤ (h 90 13) ∧ (h 90 13) ≤ (h 90 7)) (mt : pt_MT t m (h 92) (h 93) (h 94) N) (wd : pt_WD (h 95)), ov_T u d ov_m226 [ov_r 90, ov_i dep] z h (P_fMo_all_90 F z h t m N p dep)) ∧ (∀ {z : ov_Z} {h : ov_H} (t : Int → Int) (m N p : Int) (d : Nat) (hd : (10 + 5 * k + 0) ≤ d) (U : ov_cap u) (I : ov_N F z h) (dep : Int) (g_dep : ov_g dep) (p0 : 0 ≤ (h 90 7) ∧ (h 90 7) ≤ N) (p1 : (h 93 ((h 90 7))) = p) (p2 : 0 ≤ (h 90 8)) (p3 : 0 ≤ dep ∧ dep + (k : Int) = 5) (p4 : 0 ≤ (h 90 13) ∧ (h 90 13) ≤ (h 90 7)) (mt : pt_MT t m (h 92) (h 93) (h 94) N) (wd : pt_WD (h 95)), ov_T u d ov_m230 [ov_r 90, ov_i dep] z h (P_fMo_takePart_90 F z h t m N p dep)) := by
  intro k
  induction k with
  | zero => exact ⟨fun {z} {h} t m N p => c_fMo_all_90 t m N p 0 (fun k' e => by omega) (fun k' e => by omega), fun {z} {h} t m N p => c_fMo_takePart_90 t m N p 0 (fun k' e => by omega) (fun k' e => by omega)⟩
  | succ k ih =>
    obtain ⟨i1, i2⟩ := ih
    have HE : ∀ k' : Nat, k' + 1 = k + 1 → ∀ {z : ov_Z} {h : ov_H} (t : Int → Int) (m N p : Int) (d : Nat) (hd : (10 + 5 * k' + 4) ≤ d) (U : ov_cap u) (I : ov_N F z h) (dep : Int) (g_dep : ov_g dep) (p0 : 0 ≤ (h 90 7) ∧ (h 90 7) ≤ N) (p1 : (h 93 ((h 90 7))) = p) (p2 : 0 ≤ (h 90 8)) (p3 : 0 ≤ dep ∧ dep + (k' : Int) = 5) (p4 : 0 ≤ (h 90 13) ∧ (h 90 13) ≤ (h 90 7)) (mt : pt_MT t m (h 92) (h 93) (h 94) N) (wd : pt_WD (h 95)), ov_T u d ov_m226 [ov_r 90, ov_i dep] z h (P_fMo_all_90 F z h t m N p dep) := fun k' e => by
      have e2 : k' = k := by omega
      rw [e2]
      exact fun {z} {h} => @i1 z h
    have HP : ∀ k' : Nat, k' + 1 = k + 1 → ∀ {z : ov_Z} {h : ov_H} (t : Int → Int) (m N p : Int) (d : Nat) (hd : (10 + 5 * k' + 0) ≤ d) (U : ov_cap u) (I : ov_N F z h) (dep : Int) (g_dep : ov_g dep) (p0 : 0 ≤ (h 90 7) ∧ (h 90 7) ≤ N) (p1 : (h 93 ((h 90 7))) = p) (p2 : 0 ≤ (h 90 8)) (p3 : 0 ≤ dep ∧ dep + (k' : Int) = 5) (p4 : 0 ≤ (h 90 13) ∧ (h 90 13) ≤ (h 90 7)) (mt : pt_MT t m (h 92) (h 93) (h 94) N) (wd : pt_WD (h 95)), ov_T u d ov_m230 [ov_r 90, ov_i dep] z h (P_fMo_takePart_90 F z h t m N p dep) := fun k' e => by
      have e2 : k' = k := by omega
      rw [e2]
      exact fun {z} {h} => @i2 z h
    exact ⟨fun {z} {h} t m N p => c_fMo_all_90 t m N p (k + 1) HE HP, fun {z} {h} t m N p => c_fMo_takePart_90 t m N p (k + 1) HE HP⟩
theorem c_fMo_all_90_all {u : ov_U} {F : ov_H × ov_Z} (t : Int → Int) (m N p : Int) (k : Nat) : ∀ {z : ov_Z} {h : ov_H} (d : Nat) (hd : (10 + 5 * k + 4) ≤ d) (U : ov_cap u) (I : ov_N F z h) (dep : Int) (g_dep : ov_g dep) (p0 : 0 ≤ (h 90 7) ∧ (h 90 7) ≤ N) (p1 : (h 93 ((h 90 7))) = p) (p2 : 0 ≤ (h 90 8)) (p3 : 0 ≤ dep ∧ dep + (k : Int) = 5) (p4 : 0 ≤ (h 90 13) ∧ (h 90 13) ≤ (h 90 7)) (mt : pt_MT t m (h 92) (h 93) (h 94) N) (wd : pt_WD (h 95)), ov_T u d ov_m226 [ov_r 90, ov_i dep] z h (P_fMo_all_90 F z h t m N p dep) := fun {z} {h} => @(c_fMo_all_90_both k).1 z h t m N p

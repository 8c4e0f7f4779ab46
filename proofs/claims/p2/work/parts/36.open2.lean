
abbrev P_Ways_soonestWay_46_58 (F : ov_H) (z : ov_Z) (h : ov_H) (c : Int) (s : Int) (w : Int) : Option ov_V → ov_Z → ov_H → Prop := fun r0 z' h' => ∃ r : Int, r0 = some (ov_i r) ∧ ov_I F z' h' ∧ (-2 ≤ r ∧ r ≤ 1 ∧ (h' 36 7) = (h 36 7) ∧ (h' 1 1) = (h 1 1) ∧ (h' 90 2) = (h 90 2) ∧ (h' 0 10) = (h 0 10) ∧ (h' 0 11) = (h 0 11) ∧ (h' 0 12) = (h 0 12) ∧ (h' 0 13) = (h 0 13) ∧ (h' 3 1) = (h 3 1) ∧ (h' 36 8) = (h 36 8) ∧ (h' 46 4) = (h 46 4) ∧ (h' 49 4) = (h 49 4) ∧ (h' 49 5) = (h 49 5))
set_option maxHeartbeats 4000000 in
theorem c_Ways_soonestWay_46_58 {u : ov_U} {F : ov_H} {z : ov_Z} {h : ov_H} (d : Nat) (hd : 20 ≤ d) (U : ov_cap u) (I : ov_I F z h) (c : Int) (s : Int) (w : Int) (g_c : ov_g c) (g_s : ov_g s) (g_w : ov_g w) (p0 : 0 ≤ c ∧ c ≤ 53) : ov_T u d ov_m113 [ov_r 46, ov_r 58, ov_i c, ov_i s, ov_i w] z h (P_Ways_soonestWay_46_58 F z h c s w) := by
  sorry
abbrev P_Ways_soonestWay_46_70 (F : ov_H) (z : ov_Z) (h : ov_H) (c : Int) (s : Int) (w : Int) : Option ov_V → ov_Z → ov_H → Prop := fun r0 z' h' => ∃ r : Int, r0 = some (ov_i r) ∧ ov_I F z' h' ∧ (-2 ≤ r ∧ r ≤ 1 ∧ (h' 36 7) = (h 36 7) ∧ (h' 1 1) = (h 1 1) ∧ (h' 90 2) = (h 90 2) ∧ (h' 0 10) = (h 0 10) ∧ (h' 0 11) = (h 0 11) ∧ (h' 0 12) = (h 0 12) ∧ (h' 0 13) = (h 0 13) ∧ (h' 3 1) = (h 3 1) ∧ (h' 36 8) = (h 36 8) ∧ (h' 46 4) = (h 46 4) ∧ (h' 49 4) = (h 49 4) ∧ (h' 49 5) = (h 49 5))
set_option maxHeartbeats 4000000 in
theorem c_Ways_soonestWay_46_70 {u : ov_U} {F : ov_H} {z : ov_Z} {h : ov_H} (d : Nat) (hd : 20 ≤ d) (U : ov_cap u) (I : ov_I F z h) (c : Int) (s : Int) (w : Int) (g_c : ov_g c) (g_s : ov_g s) (g_w : ov_g w) (p0 : 0 ≤ c ∧ c ≤ 53) : ov_T u d ov_m113 [ov_r 46, ov_r 70, ov_i c, ov_i s, ov_i w] z h (P_Ways_soonestWay_46_70 F z h c s w) := by
  sorry

/-! cells of the state and of the walk by their number -/
theorem s103_0 {F : ov_H × ov_Z} {z : ov_Z} {h : ov_H} (I : ov_N F z h) : 0 ≤ h 103 0 ∧ h 103 0 ≤ 5 := (ra_103 I 0).2.1 rfl
theorem s103_1 {F : ov_H × ov_Z} {z : ov_Z} {h : ov_H} (I : ov_N F z h) : 0 ≤ h 103 1 ∧ h 103 1 ≤ 8 := (ra_103 I 1).2.2.1 rfl
theorem s103_2 {F : ov_H × ov_Z} {z : ov_Z} {h : ov_H} (I : ov_N F z h) : 0 ≤ h 103 2 ∧ h 103 2 ≤ ov_bd F := (ra_103 I 2).2.2.2.1 rfl
theorem s103_58 {F : ov_H × ov_Z} {z : ov_Z} {h : ov_H} (I : ov_N F z h) : 0 ≤ h 103 58 ∧ h 103 58 ≤ 10 := (ra_103 I 58).2.2.2.2.1 rfl
theorem s103_59 {F : ov_H × ov_Z} {z : ov_Z} {h : ov_H} (I : ov_N F z h) : 0 ≤ h 103 59 ∧ h 103 59 ≤ 8 := (ra_103 I 59).2.2.2.2.2 rfl
theorem s100_0 {F : ov_H × ov_Z} {z : ov_Z} {h : ov_H} (I : ov_N F z h) : 0 ≤ h 100 0 ∧ h 100 0 ≤ 13 := (ra_100 I 0).2.1 rfl
theorem s100_w {F : ov_H × ov_Z} {z : ov_Z} {h : ov_H} (I : ov_N F z h) {j : Int} (hj : 0 ≤ j ∧ j ≤ 12) : 0 ≤ h 100 (1 + 2 * j) ∧ h 100 (1 + 2 * j) ≤ 1 := (ra_100 I (1 + 2 * j)).2.2.1 (by omega) (by omega) (by omega)
theorem s100_g {F : ov_H × ov_Z} {z : ov_Z} {h : ov_H} (I : ov_N F z h) (k : Int) : 0 ≤ h 100 k ∧ h 100 k ≤ 9999 := (ra_100 I k).1
theorem s105_g {F : ov_H × ov_Z} {z : ov_Z} {h : ov_H} (I : ov_N F z h) (k : Int) : -1 ≤ h 105 k ∧ h 105 k ≤ 1200000 := ⟨(ra_105 I k).1, (ra_105 I k).2.1⟩
theorem s109_g {F : ov_H × ov_Z} {z : ov_Z} {h : ov_H} (I : ov_N F z h) (k : Int) : 0 ≤ h 109 k ∧ h 109 k ≤ 2000000000 := ⟨(ra_109 I k).1, (ra_109 I k).2.1⟩

/-! a row with one cell changed -/
def ov_rs (f : Int → Int) (k v : Int) : Int → Int := fun j => if j = k then v else f j
theorem ov_rs_ne {f : Int → Int} {k v j : Int} (hj : j ≠ k) : ov_rs f k v j = f j := by
  unfold ov_rs
  rw [if_neg hj]
theorem ov_rs_eq (f : Int → Int) (k v : Int) : ov_rs f k v k = v := by
  unfold ov_rs
  rw [if_pos rfl]
theorem ov_up_row (h : ov_H) (a k x : Int) : ov_up h a k x a = ov_rs (h a) k x := by
  funext j
  unfold ov_up ov_rs
  by_cases e : j = k
  · rw [if_pos ⟨rfl, e⟩, if_pos e]
  · rw [if_neg (fun q => e q.2), if_neg e]

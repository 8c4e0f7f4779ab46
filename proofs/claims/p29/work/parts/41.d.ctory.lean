/-! the town at 58 while the class is being made -/
def ov_Y (F : ov_H × ov_Z) (z : ov_Z) (h : ov_H) : Prop := z = F.2 ∧ (70 ≤ z.1 ∧ ∀ a : Int, 58 ≤ a → a ≤ 69 → z.2.2 a = ov_sh0 a) ∧ (∀ a k : Int, 58 ≤ a → a ≤ 69 → ov_pr a.toNat k (h a k)) ∧ ∀ b : Int, b < 58 ∨ 69 < b → h b = F.1 b
theorem ov_Y_up {F : ov_H × ov_Z} {z : ov_Z} {h : ov_H} {a k x : Int} (I : ov_Y F z h) (ha : 58 ≤ a ∧ a ≤ 69) (hx : ov_pr a.toNat k x) : ov_Y F z (ov_up h a k x) := by
  refine ⟨I.1, I.2.1, fun b j h0 h1 => ?_, fun b hb => ?_⟩
  · unfold ov_up
    split
    · rename_i hc
      rw [hc.1, hc.2]
      exact hx
    · exact I.2.2.1 b j h0 h1
  · rw [ov_up_ne (by omega)]
    exact I.2.2.2 b hb
theorem yb_58 {F : ov_H × ov_Z} {z : ov_Z} {h : ov_H} (I : ov_Y F z h) : 0 ≤ (58 : Int) ∧ (58 : Int) < z.1 := ⟨by decide, by have := I.2.1.1; omega⟩
theorem ys_58 {F : ov_H × ov_Z} {z : ov_Z} {h : ov_H} (I : ov_Y F z h) : z.2.2 58 = (14, 18) := I.2.1.2 58 (by decide) (by decide)
theorem yg_58_0 {F : ov_H × ov_Z} {z : ov_Z} {h : ov_H} (I : ov_Y F z h) : 0 ≤ (h 58 0) ∧ (h 58 0) ≤ 6 := (I.2.2.1 58 0 (by decide) (by decide)).1 rfl
theorem yp_58_0 {F : ov_H × ov_Z} {z : ov_Z} {h : ov_H} (I : ov_Y F z h) {x : Int} (hx : 0 ≤ x ∧ x ≤ 6) : ov_Y F z (ov_up h 58 0 x) := ov_Y_up I ⟨by decide, by decide⟩ ⟨fun _ => hx, fun e => absurd e (by decide), fun e => absurd e (by decide), fun e => absurd e (by decide), fun e => absurd e (by decide), fun e => absurd e (by decide), fun e => absurd e (by decide), fun e => absurd e (by decide), fun e => absurd e (by decide), fun e => absurd e (by decide), fun e => absurd e (by decide), fun e => absurd e (by decide), fun e => absurd e (by decide), fun e => absurd e (by decide), fun e => absurd e (by decide), fun e => absurd e (by decide), fun e => absurd e (by decide), fun e => absurd e (by decide)⟩
theorem yg_58_1 {F : ov_H × ov_Z} {z : ov_Z} {h : ov_H} (I : ov_Y F z h) : 0 ≤ (h 58 1) ∧ (h 58 1) ≤ 9 := (I.2.2.1 58 1 (by decide) (by decide)).2.1 rfl
theorem yp_58_1 {F : ov_H × ov_Z} {z : ov_Z} {h : ov_H} (I : ov_Y F z h) {x : Int} (hx : 0 ≤ x ∧ x ≤ 9) : ov_Y F z (ov_up h 58 1 x) := ov_Y_up I ⟨by decide, by decide⟩ ⟨fun e => absurd e (by decide), fun _ => hx, fun e => absurd e (by decide), fun e => absurd e (by decide), fun e => absurd e (by decide), fun e => absurd e (by decide), fun e => absurd e (by decide), fun e => absurd e (by decide), fun e => absurd e (by decide), fun e => absurd e (by decide), fun e => absurd e (by decide), fun e => absurd e (by decide), fun e => absurd e (by decide), fun e => absurd e (by decide), fun e => absurd e (by decide), fun e => absurd e (by decide), fun e => absurd e (by decide), fun e => absurd e (by decide)⟩
theorem yg_58_2 {F : ov_H × ov_Z} {z : ov_Z} {h : ov_H} (I : ov_Y F z h) : (h 58 2) = 59 := (I.2.2.1 58 2 (by decide) (by decide)).2.2.1 rfl
theorem yp_58_2 {F : ov_H × ov_Z} {z : ov_Z} {h : ov_H} (I : ov_Y F z h) {x : Int} (hx : x = 59) : ov_Y F z (ov_up h 58 2 x) := ov_Y_up I ⟨by decide, by decide⟩ ⟨fun e => absurd e (by decide), fun e => absurd e (by decide), fun _ => hx, fun e => absurd e (by decide), fun e => absurd e (by decide), fun e => absurd e (by decide), fun e => absurd e (by decide), fun e => absurd e (by decide), fun e => absurd e (by decide), fun e => absurd e (by decide), fun e => absurd e (by decide), fun e => absurd e (by decide), fun e => absurd e (by decide), fun e => absurd e (by decide), fun e => absurd e (by decide), fun e => absurd e (by decide), fun e => absurd e (by decide), fun e => absurd e (by decide)⟩
theorem yg_58_3 {F : ov_H × ov_Z} {z : ov_Z} {h : ov_H} (I : ov_Y F z h) : (h 58 3) = 60 := (I.2.2.1 58 3 (by decide) (by decide)).2.2.2.1 rfl
theorem yp_58_3 {F : ov_H × ov_Z} {z : ov_Z} {h : ov_H} (I : ov_Y F z h) {x : Int} (hx : x = 60) : ov_Y F z (ov_up h 58 3 x) := ov_Y_up I ⟨by decide, by decide⟩ ⟨fun e => absurd e (by decide), fun e => absurd e (by decide), fun e => absurd e (by decide), fun _ => hx, fun e => absurd e (by decide), fun e => absurd e (by decide), fun e => absurd e (by decide), fun e => absurd e (by decide), fun e => absurd e (by decide), fun e => absurd e (by decide), fun e => absurd e (by decide), fun e => absurd e (by decide), fun e => absurd e (by decide), fun e => absurd e (by decide), fun e => absurd e (by decide), fun e => absurd e (by decide), fun e => absurd e (by decide), fun e => absurd e (by decide)⟩
theorem yg_58_4 {F : ov_H × ov_Z} {z : ov_Z} {h : ov_H} (I : ov_Y F z h) : (h 58 4) = 61 := (I.2.2.1 58 4 (by decide) (by decide)).2.2.2.2.1 rfl
theorem yp_58_4 {F : ov_H × ov_Z} {z : ov_Z} {h : ov_H} (I : ov_Y F z h) {x : Int} (hx : x = 61) : ov_Y F z (ov_up h 58 4 x) := ov_Y_up I ⟨by decide, by decide⟩ ⟨fun e => absurd e (by decide), fun e => absurd e (by decide), fun e => absurd e (by decide), fun e => absurd e (by decide), fun _ => hx, fun e => absurd e (by decide), fun e => absurd e (by decide), fun e => absurd e (by decide), fun e => absurd e (by decide), fun e => absurd e (by decide), fun e => absurd e (by decide), fun e => absurd e (by decide), fun e => absurd e (by decide), fun e => absurd e (by decide), fun e => absurd e (by decide), fun e => absurd e (by decide), fun e => absurd e (by decide), fun e => absurd e (by decide)⟩
theorem yg_58_5 {F : ov_H × ov_Z} {z : ov_Z} {h : ov_H} (I : ov_Y F z h) : (h 58 5) = 62 := (I.2.2.1 58 5 (by decide) (by decide)).2.2.2.2.2.1 rfl
theorem yp_58_5 {F : ov_H × ov_Z} {z : ov_Z} {h : ov_H} (I : ov_Y F z h) {x : Int} (hx : x = 62) : ov_Y F z (ov_up h 58 5 x) := ov_Y_up I ⟨by decide, by decide⟩ ⟨fun e => absurd e (by decide), fun e => absurd e (by decide), fun e => absurd e (by decide), fun e => absurd e (by decide), fun e => absurd e (by decide), fun _ => hx, fun e => absurd e (by decide), fun e => absurd e (by decide), fun e => absurd e (by decide), fun e => absurd e (by decide), fun e => absurd e (by decide), fun e => absurd e (by decide), fun e => absurd e (by decide), fun e => absurd e (by decide), fun e => absurd e (by decide), fun e => absurd e (by decide), fun e => absurd e (by decide), fun e => absurd e (by decide)⟩
theorem yg_58_6 {F : ov_H × ov_Z} {z : ov_Z} {h : ov_H} (I : ov_Y F z h) : (h 58 6) = 63 := (I.2.2.1 58 6 (by decide) (by decide)).2.2.2.2.2.2.1 rfl
theorem yp_58_6 {F : ov_H × ov_Z} {z : ov_Z} {h : ov_H} (I : ov_Y F z h) {x : Int} (hx : x = 63) : ov_Y F z (ov_up h 58 6 x) := ov_Y_up I ⟨by decide, by decide⟩ ⟨fun e => absurd e (by decide), fun e => absurd e (by decide), fun e => absurd e (by decide), fun e => absurd e (by decide), fun e => absurd e (by decide), fun e => absurd e (by decide), fun _ => hx, fun e => absurd e (by decide), fun e => absurd e (by decide), fun e => absurd e (by decide), fun e => absurd e (by decide), fun e => absurd e (by decide), fun e => absurd e (by decide), fun e => absurd e (by decide), fun e => absurd e (by decide), fun e => absurd e (by decide), fun e => absurd e (by decide), fun e => absurd e (by decide)⟩
theorem yg_58_7 {F : ov_H × ov_Z} {z : ov_Z} {h : ov_H} (I : ov_Y F z h) : (h 58 7) = 64 := (I.2.2.1 58 7 (by decide) (by decide)).2.2.2.2.2.2.2.1 rfl
theorem yp_58_7 {F : ov_H × ov_Z} {z : ov_Z} {h : ov_H} (I : ov_Y F z h) {x : Int} (hx : x = 64) : ov_Y F z (ov_up h 58 7 x) := ov_Y_up I ⟨by decide, by decide⟩ ⟨fun e => absurd e (by decide), fun e => absurd e (by decide), fun e => absurd e (by decide), fun e => absurd e (by decide), fun e => absurd e (by decide), fun e => absurd e (by decide), fun e => absurd e (by decide), fun _ => hx, fun e => absurd e (by decide), fun e => absurd e (by decide), fun e => absurd e (by decide), fun e => absurd e (by decide), fun e => absurd e (by decide), fun e => absurd e (by decide), fun e => absurd e (by decide), fun e => absurd e (by decide), fun e => absurd e (by decide), fun e => absurd e (by decide)⟩
theorem yg_58_8 {F : ov_H × ov_Z} {z : ov_Z} {h : ov_H} (I : ov_Y F z h) : 0 ≤ (h 58 8) ∧ (h 58 8) ≤ 1 := (I.2.2.1 58 8 (by decide) (by decide)).2.2.2.2.2.2.2.2.1 rfl
theorem yp_58_8 {F : ov_H × ov_Z} {z : ov_Z} {h : ov_H} (I : ov_Y F z h) {x : Int} (hx : 0 ≤ x ∧ x ≤ 1) : ov_Y F z (ov_up h 58 8 x) := ov_Y_up I ⟨by decide, by decide⟩ ⟨fun e => absurd e (by decide), fun e => absurd e (by decide), fun e => absurd e (by decide), fun e => absurd e (by decide), fun e => absurd e (by decide), fun e => absurd e (by decide), fun e => absurd e (by decide), fun e => absurd e (by decide), fun _ => hx, fun e => absurd e (by decide), fun e => absurd e (by decide), fun e => absurd e (by decide), fun e => absurd e (by decide), fun e => absurd e (by decide), fun e => absurd e (by decide), fun e => absurd e (by decide), fun e => absurd e (by decide), fun e => absurd e (by decide)⟩
theorem yg_58_9 {F : ov_H × ov_Z} {z : ov_Z} {h : ov_H} (I : ov_Y F z h) : (-2147483648) ≤ (h 58 9) ∧ (h 58 9) ≤ 2147483647 := (I.2.2.1 58 9 (by decide) (by decide)).2.2.2.2.2.2.2.2.2.1 rfl
theorem yp_58_9 {F : ov_H × ov_Z} {z : ov_Z} {h : ov_H} (I : ov_Y F z h) {x : Int} (hx : (-2147483648) ≤ x ∧ x ≤ 2147483647) : ov_Y F z (ov_up h 58 9 x) := ov_Y_up I ⟨by decide, by decide⟩ ⟨fun e => absurd e (by decide), fun e => absurd e (by decide), fun e => absurd e (by decide), fun e => absurd e (by decide), fun e => absurd e (by decide), fun e => absurd e (by decide), fun e => absurd e (by decide), fun e => absurd e (by decide), fun e => absurd e (by decide), fun _ => hx, fun e => absurd e (by decide), fun e => absurd e (by decide), fun e => absurd e (by decide), fun e => absurd e (by decide), fun e => absurd e (by decide), fun e => absurd e (by decide), fun e => absurd e (by decide), fun e => absurd e (by decide)⟩
theorem yg_58_10 {F : ov_H × ov_Z} {z : ov_Z} {h : ov_H} (I : ov_Y F z h) : 0 ≤ (h 58 10) ∧ (h 58 10) ≤ 1200 := (I.2.2.1 58 10 (by decide) (by decide)).2.2.2.2.2.2.2.2.2.2.1 rfl
theorem yp_58_10 {F : ov_H × ov_Z} {z : ov_Z} {h : ov_H} (I : ov_Y F z h) {x : Int} (hx : 0 ≤ x ∧ x ≤ 1200) : ov_Y F z (ov_up h 58 10 x) := ov_Y_up I ⟨by decide, by decide⟩ ⟨fun e => absurd e (by decide), fun e => absurd e (by decide), fun e => absurd e (by decide), fun e => absurd e (by decide), fun e => absurd e (by decide), fun e => absurd e (by decide), fun e => absurd e (by decide), fun e => absurd e (by decide), fun e => absurd e (by decide), fun e => absurd e (by decide), fun _ => hx, fun e => absurd e (by decide), fun e => absurd e (by decide), fun e => absurd e (by decide), fun e => absurd e (by decide), fun e => absurd e (by decide), fun e => absurd e (by decide), fun e => absurd e (by decide)⟩
theorem yg_58_11 {F : ov_H × ov_Z} {z : ov_Z} {h : ov_H} (I : ov_Y F z h) : 0 ≤ (h 58 11) ∧ (h 58 11) ≤ 4 := (I.2.2.1 58 11 (by decide) (by decide)).2.2.2.2.2.2.2.2.2.2.2.1 rfl
theorem yp_58_11 {F : ov_H × ov_Z} {z : ov_Z} {h : ov_H} (I : ov_Y F z h) {x : Int} (hx : 0 ≤ x ∧ x ≤ 4) : ov_Y F z (ov_up h 58 11 x) := ov_Y_up I ⟨by decide, by decide⟩ ⟨fun e => absurd e (by decide), fun e => absurd e (by decide), fun e => absurd e (by decide), fun e => absurd e (by decide), fun e => absurd e (by decide), fun e => absurd e (by decide), fun e => absurd e (by decide), fun e => absurd e (by decide), fun e => absurd e (by decide), fun e => absurd e (by decide), fun e => absurd e (by decide), fun _ => hx, fun e => absurd e (by decide), fun e => absurd e (by decide), fun e => absurd e (by decide), fun e => absurd e (by decide), fun e => absurd e (by decide), fun e => absurd e (by decide)⟩
theorem yg_58_12 {F : ov_H × ov_Z} {z : ov_Z} {h : ov_H} (I : ov_Y F z h) : (h 58 12) = 65 := (I.2.2.1 58 12 (by decide) (by decide)).2.2.2.2.2.2.2.2.2.2.2.2.1 rfl
theorem yp_58_12 {F : ov_H × ov_Z} {z : ov_Z} {h : ov_H} (I : ov_Y F z h) {x : Int} (hx : x = 65) : ov_Y F z (ov_up h 58 12 x) := ov_Y_up I ⟨by decide, by decide⟩ ⟨fun e => absurd e (by decide), fun e => absurd e (by decide), fun e => absurd e (by decide), fun e => absurd e (by decide), fun e => absurd e (by decide), fun e => absurd e (by decide), fun e => absurd e (by decide), fun e => absurd e (by decide), fun e => absurd e (by decide), fun e => absurd e (by decide), fun e => absurd e (by decide), fun e => absurd e (by decide), fun _ => hx, fun e => absurd e (by decide), fun e => absurd e (by decide), fun e => absurd e (by decide), fun e => absurd e (by decide), fun e => absurd e (by decide)⟩
theorem yg_58_13 {F : ov_H × ov_Z} {z : ov_Z} {h : ov_H} (I : ov_Y F z h) : (h 58 13) = 66 := (I.2.2.1 58 13 (by decide) (by decide)).2.2.2.2.2.2.2.2.2.2.2.2.2.1 rfl
theorem yp_58_13 {F : ov_H × ov_Z} {z : ov_Z} {h : ov_H} (I : ov_Y F z h) {x : Int} (hx : x = 66) : ov_Y F z (ov_up h 58 13 x) := ov_Y_up I ⟨by decide, by decide⟩ ⟨fun e => absurd e (by decide), fun e => absurd e (by decide), fun e => absurd e (by decide), fun e => absurd e (by decide), fun e => absurd e (by decide), fun e => absurd e (by decide), fun e => absurd e (by decide), fun e => absurd e (by decide), fun e => absurd e (by decide), fun e => absurd e (by decide), fun e => absurd e (by decide), fun e => absurd e (by decide), fun e => absurd e (by decide), fun _ => hx, fun e => absurd e (by decide), fun e => absurd e (by decide), fun e => absurd e (by decide), fun e => absurd e (by decide)⟩
theorem yg_58_14 {F : ov_H × ov_Z} {z : ov_Z} {h : ov_H} (I : ov_Y F z h) : (h 58 14) = 67 := (I.2.2.1 58 14 (by decide) (by decide)).2.2.2.2.2.2.2.2.2.2.2.2.2.2.1 rfl
theorem yp_58_14 {F : ov_H × ov_Z} {z : ov_Z} {h : ov_H} (I : ov_Y F z h) {x : Int} (hx : x = 67) : ov_Y F z (ov_up h 58 14 x) := ov_Y_up I ⟨by decide, by decide⟩ ⟨fun e => absurd e (by decide), fun e => absurd e (by decide), fun e => absurd e (by decide), fun e => absurd e (by decide), fun e => absurd e (by decide), fun e => absurd e (by decide), fun e => absurd e (by decide), fun e => absurd e (by decide), fun e => absurd e (by decide), fun e => absurd e (by decide), fun e => absurd e (by decide), fun e => absurd e (by decide), fun e => absurd e (by decide), fun e => absurd e (by decide), fun _ => hx, fun e => absurd e (by decide), fun e => absurd e (by decide), fun e => absurd e (by decide)⟩
theorem yg_58_15 {F : ov_H × ov_Z} {z : ov_Z} {h : ov_H} (I : ov_Y F z h) : (h 58 15) = 68 := (I.2.2.1 58 15 (by decide) (by decide)).2.2.2.2.2.2.2.2.2.2.2.2.2.2.2.1 rfl
theorem yp_58_15 {F : ov_H × ov_Z} {z : ov_Z} {h : ov_H} (I : ov_Y F z h) {x : Int} (hx : x = 68) : ov_Y F z (ov_up h 58 15 x) := ov_Y_up I ⟨by decide, by decide⟩ ⟨fun e => absurd e (by decide), fun e => absurd e (by decide), fun e => absurd e (by decide), fun e => absurd e (by decide), fun e => absurd e (by decide), fun e => absurd e (by decide), fun e => absurd e (by decide), fun e => absurd e (by decide), fun e => absurd e (by decide), fun e => absurd e (by decide), fun e => absurd e (by decide), fun e => absurd e (by decide), fun e => absurd e (by decide), fun e => absurd e (by decide), fun e => absurd e (by decide), fun _ => hx, fun e => absurd e (by decide), fun e => absurd e (by decide)⟩
theorem yg_58_16 {F : ov_H × ov_Z} {z : ov_Z} {h : ov_H} (I : ov_Y F z h) : 0 ≤ (h 58 16) ∧ (h 58 16) ≤ 1000 := (I.2.2.1 58 16 (by decide) (by decide)).2.2.2.2.2.2.2.2.2.2.2.2.2.2.2.2.1 rfl
theorem yp_58_16 {F : ov_H × ov_Z} {z : ov_Z} {h : ov_H} (I : ov_Y F z h) {x : Int} (hx : 0 ≤ x ∧ x ≤ 1000) : ov_Y F z (ov_up h 58 16 x) := ov_Y_up I ⟨by decide, by decide⟩ ⟨fun e => absurd e (by decide), fun e => absurd e (by decide), fun e => absurd e (by decide), fun e => absurd e (by decide), fun e => absurd e (by decide), fun e => absurd e (by decide), fun e => absurd e (by decide), fun e => absurd e (by decide), fun e => absurd e (by decide), fun e => absurd e (by decide), fun e => absurd e (by decide), fun e => absurd e (by decide), fun e => absurd e (by decide), fun e => absurd e (by decide), fun e => absurd e (by decide), fun e => absurd e (by decide), fun _ => hx, fun e => absurd e (by decide)⟩
theorem yg_58_17 {F : ov_H × ov_Z} {z : ov_Z} {h : ov_H} (I : ov_Y F z h) : (h 58 17) = 69 := (I.2.2.1 58 17 (by decide) (by decide)).2.2.2.2.2.2.2.2.2.2.2.2.2.2.2.2.2 rfl
theorem yp_58_17 {F : ov_H × ov_Z} {z : ov_Z} {h : ov_H} (I : ov_Y F z h) {x : Int} (hx : x = 69) : ov_Y F z (ov_up h 58 17 x) := ov_Y_up I ⟨by decide, by decide⟩ ⟨fun e => absurd e (by decide), fun e => absurd e (by decide), fun e => absurd e (by decide), fun e => absurd e (by decide), fun e => absurd e (by decide), fun e => absurd e (by decide), fun e => absurd e (by decide), fun e => absurd e (by decide), fun e => absurd e (by decide), fun e => absurd e (by decide), fun e => absurd e (by decide), fun e => absurd e (by decide), fun e => absurd e (by decide), fun e => absurd e (by decide), fun e => absurd e (by decide), fun e => absurd e (by decide), fun e => absurd e (by decide), fun _ => hx⟩
theorem yb_59 {F : ov_H × ov_Z} {z : ov_Z} {h : ov_H} (I : ov_Y F z h) : 0 ≤ (59 : Int) ∧ (59 : Int) < z.1 := ⟨by decide, by have := I.2.1.1; omega⟩
theorem ys_59 {F : ov_H × ov_Z} {z : ov_Z} {h : ov_H} (I : ov_Y F z h) : z.2.2 59 = (0, 54) := I.2.1.2 59 (by decide) (by decide)
theorem ya_59 {F : ov_H × ov_Z} {z : ov_Z} {h : ov_H} (I : ov_Y F z h) (k : Int) : (-1) ≤ (h 59 k) ∧ (h 59 k) ≤ 3 := I.2.2.1 59 k (by decide) (by decide)
theorem yu_59 {F : ov_H × ov_Z} {z : ov_Z} {h : ov_H} (I : ov_Y F z h) {k x : Int} (hx : (-1) ≤ x ∧ x ≤ 3) : ov_Y F z (ov_up h 59 k x) := ov_Y_up I ⟨by decide, by decide⟩ hx
theorem yb_60 {F : ov_H × ov_Z} {z : ov_Z} {h : ov_H} (I : ov_Y F z h) : 0 ≤ (60 : Int) ∧ (60 : Int) < z.1 := ⟨by decide, by have := I.2.1.1; omega⟩
theorem ys_60 {F : ov_H × ov_Z} {z : ov_Z} {h : ov_H} (I : ov_Y F z h) : z.2.2 60 = (0, 54) := I.2.1.2 60 (by decide) (by decide)
theorem ya_60 {F : ov_H × ov_Z} {z : ov_Z} {h : ov_H} (I : ov_Y F z h) (k : Int) : 0 ≤ (h 60 k) ∧ (h 60 k) ≤ 60 := I.2.2.1 60 k (by decide) (by decide)
theorem yu_60 {F : ov_H × ov_Z} {z : ov_Z} {h : ov_H} (I : ov_Y F z h) {k x : Int} (hx : 0 ≤ x ∧ x ≤ 60) : ov_Y F z (ov_up h 60 k x) := ov_Y_up I ⟨by decide, by decide⟩ hx
theorem yb_61 {F : ov_H × ov_Z} {z : ov_Z} {h : ov_H} (I : ov_Y F z h) : 0 ≤ (61 : Int) ∧ (61 : Int) < z.1 := ⟨by decide, by have := I.2.1.1; omega⟩
theorem ys_61 {F : ov_H × ov_Z} {z : ov_Z} {h : ov_H} (I : ov_Y F z h) : z.2.2 61 = (0, 54) := I.2.1.2 61 (by decide) (by decide)
theorem ya_61 {F : ov_H × ov_Z} {z : ov_Z} {h : ov_H} (I : ov_Y F z h) (k : Int) : 0 ≤ (h 61 k) ∧ (h 61 k) ≤ 59 := I.2.2.1 61 k (by decide) (by decide)
theorem yu_61 {F : ov_H × ov_Z} {z : ov_Z} {h : ov_H} (I : ov_Y F z h) {k x : Int} (hx : 0 ≤ x ∧ x ≤ 59) : ov_Y F z (ov_up h 61 k x) := ov_Y_up I ⟨by decide, by decide⟩ hx
theorem yb_62 {F : ov_H × ov_Z} {z : ov_Z} {h : ov_H} (I : ov_Y F z h) : 0 ≤ (62 : Int) ∧ (62 : Int) < z.1 := ⟨by decide, by have := I.2.1.1; omega⟩
theorem ys_62 {F : ov_H × ov_Z} {z : ov_Z} {h : ov_H} (I : ov_Y F z h) : z.2.2 62 = (0, 54) := I.2.1.2 62 (by decide) (by decide)
theorem ya_62 {F : ov_H × ov_Z} {z : ov_Z} {h : ov_H} (I : ov_Y F z h) (k : Int) : 0 ≤ (h 62 k) ∧ (h 62 k) ≤ 60 := I.2.2.1 62 k (by decide) (by decide)
theorem yu_62 {F : ov_H × ov_Z} {z : ov_Z} {h : ov_H} (I : ov_Y F z h) {k x : Int} (hx : 0 ≤ x ∧ x ≤ 60) : ov_Y F z (ov_up h 62 k x) := ov_Y_up I ⟨by decide, by decide⟩ hx
theorem yb_63 {F : ov_H × ov_Z} {z : ov_Z} {h : ov_H} (I : ov_Y F z h) : 0 ≤ (63 : Int) ∧ (63 : Int) < z.1 := ⟨by decide, by have := I.2.1.1; omega⟩
theorem ys_63 {F : ov_H × ov_Z} {z : ov_Z} {h : ov_H} (I : ov_Y F z h) : z.2.2 63 = (0, 54) := I.2.1.2 63 (by decide) (by decide)
theorem ya_63 {F : ov_H × ov_Z} {z : ov_Z} {h : ov_H} (I : ov_Y F z h) (k : Int) : (-2147483648) ≤ (h 63 k) ∧ (h 63 k) ≤ 2147483647 := I.2.2.1 63 k (by decide) (by decide)
theorem yu_63 {F : ov_H × ov_Z} {z : ov_Z} {h : ov_H} (I : ov_Y F z h) {k x : Int} (hx : (-2147483648) ≤ x ∧ x ≤ 2147483647) : ov_Y F z (ov_up h 63 k x) := ov_Y_up I ⟨by decide, by decide⟩ hx
theorem yb_64 {F : ov_H × ov_Z} {z : ov_Z} {h : ov_H} (I : ov_Y F z h) : 0 ≤ (64 : Int) ∧ (64 : Int) < z.1 := ⟨by decide, by have := I.2.1.1; omega⟩
theorem ys_64 {F : ov_H × ov_Z} {z : ov_Z} {h : ov_H} (I : ov_Y F z h) : z.2.2 64 = (0, 4) := I.2.1.2 64 (by decide) (by decide)
theorem ya_64 {F : ov_H × ov_Z} {z : ov_Z} {h : ov_H} (I : ov_Y F z h) (k : Int) : -1 ≤ (h 64 k) ∧ (h 64 k) ≤ 30 ∧ (k = 3 → (h 64 k) ≤ 9) := I.2.2.1 64 k (by decide) (by decide)
theorem yu_64 {F : ov_H × ov_Z} {z : ov_Z} {h : ov_H} (I : ov_Y F z h) {k x : Int} (hx : -1 ≤ x ∧ x ≤ 30 ∧ (k = 3 → x ≤ 9)) : ov_Y F z (ov_up h 64 k x) := ov_Y_up I ⟨by decide, by decide⟩ hx
theorem yb_65 {F : ov_H × ov_Z} {z : ov_Z} {h : ov_H} (I : ov_Y F z h) : 0 ≤ (65 : Int) ∧ (65 : Int) < z.1 := ⟨by decide, by have := I.2.1.1; omega⟩
theorem ys_65 {F : ov_H × ov_Z} {z : ov_Z} {h : ov_H} (I : ov_Y F z h) : z.2.2 65 = (0, 54) := I.2.1.2 65 (by decide) (by decide)
theorem ya_65 {F : ov_H × ov_Z} {z : ov_Z} {h : ov_H} (I : ov_Y F z h) (k : Int) : 0 ≤ (h 65 k) ∧ (h 65 k) ≤ 3 ∧ (48 ≤ k → (h 65 k) ≤ 1) ∧ (53 ≤ k → (h 65 k) ≤ 0) := I.2.2.1 65 k (by decide) (by decide)
theorem yu_65 {F : ov_H × ov_Z} {z : ov_Z} {h : ov_H} (I : ov_Y F z h) {k x : Int} (hx : 0 ≤ x ∧ x ≤ 3 ∧ (48 ≤ k → x ≤ 1) ∧ (53 ≤ k → x ≤ 0)) : ov_Y F z (ov_up h 65 k x) := ov_Y_up I ⟨by decide, by decide⟩ hx
theorem yb_66 {F : ov_H × ov_Z} {z : ov_Z} {h : ov_H} (I : ov_Y F z h) : 0 ≤ (66 : Int) ∧ (66 : Int) < z.1 := ⟨by decide, by have := I.2.1.1; omega⟩
theorem ys_66 {F : ov_H × ov_Z} {z : ov_Z} {h : ov_H} (I : ov_Y F z h) : z.2.2 66 = (1, 4) := I.2.1.2 66 (by decide) (by decide)
theorem yu_66 {F : ov_H × ov_Z} {z : ov_Z} {h : ov_H} (I : ov_Y F z h) {k x : Int} : ov_Y F z (ov_up h 66 k x) := ov_Y_up I ⟨by decide, by decide⟩ trivial
theorem yb_67 {F : ov_H × ov_Z} {z : ov_Z} {h : ov_H} (I : ov_Y F z h) : 0 ≤ (67 : Int) ∧ (67 : Int) < z.1 := ⟨by decide, by have := I.2.1.1; omega⟩
theorem ys_67 {F : ov_H × ov_Z} {z : ov_Z} {h : ov_H} (I : ov_Y F z h) : z.2.2 67 = (0, 4) := I.2.1.2 67 (by decide) (by decide)
theorem ya_67 {F : ov_H × ov_Z} {z : ov_Z} {h : ov_H} (I : ov_Y F z h) (k : Int) : 0 ≤ (h 67 k) ∧ (h 67 k) ≤ 1000 := I.2.2.1 67 k (by decide) (by decide)
theorem yu_67 {F : ov_H × ov_Z} {z : ov_Z} {h : ov_H} (I : ov_Y F z h) {k x : Int} (hx : 0 ≤ x ∧ x ≤ 1000) : ov_Y F z (ov_up h 67 k x) := ov_Y_up I ⟨by decide, by decide⟩ hx
theorem yb_68 {F : ov_H × ov_Z} {z : ov_Z} {h : ov_H} (I : ov_Y F z h) : 0 ≤ (68 : Int) ∧ (68 : Int) < z.1 := ⟨by decide, by have := I.2.1.1; omega⟩
theorem ys_68 {F : ov_H × ov_Z} {z : ov_Z} {h : ov_H} (I : ov_Y F z h) : z.2.2 68 = (0, 1000) := I.2.1.2 68 (by decide) (by decide)
theorem ya_68 {F : ov_H × ov_Z} {z : ov_Z} {h : ov_H} (I : ov_Y F z h) (k : Int) : (-2147483648) ≤ (h 68 k) ∧ (h 68 k) ≤ 2147483647 := I.2.2.1 68 k (by decide) (by decide)
theorem yu_68 {F : ov_H × ov_Z} {z : ov_Z} {h : ov_H} (I : ov_Y F z h) {k x : Int} (hx : (-2147483648) ≤ x ∧ x ≤ 2147483647) : ov_Y F z (ov_up h 68 k x) := ov_Y_up I ⟨by decide, by decide⟩ hx
theorem yb_69 {F : ov_H × ov_Z} {z : ov_Z} {h : ov_H} (I : ov_Y F z h) : 0 ≤ (69 : Int) ∧ (69 : Int) < z.1 := ⟨by decide, by have := I.2.1.1; omega⟩
theorem ys_69 {F : ov_H × ov_Z} {z : ov_Z} {h : ov_H} (I : ov_Y F z h) : z.2.2 69 = (0, 64) := I.2.1.2 69 (by decide) (by decide)
theorem ya_69 {F : ov_H × ov_Z} {z : ov_Z} {h : ov_H} (I : ov_Y F z h) (k : Int) : (-2147483648) ≤ (h 69 k) ∧ (h 69 k) ≤ 2147483647 := I.2.2.1 69 k (by decide) (by decide)
theorem yu_69 {F : ov_H × ov_Z} {z : ov_Z} {h : ov_H} (I : ov_Y F z h) {k x : Int} (hx : (-2147483648) ≤ x ∧ x ≤ 2147483647) : ov_Y F z (ov_up h 69 k x) := ov_Y_up I ⟨by decide, by decide⟩ hx

abbrev Py_Arrays_fill_AIIV_59 (F : ov_H × ov_Z) (z : ov_Z) (h : ov_H) (v : Int) : Option ov_V → ov_Z → ov_H → Prop := fun r0 z' h' => r0 = none ∧ ov_Y F z' h' ∧ ((h' 58 0) = (h 58 0) ∧ (h' 58 1) = (h 58 1))
set_option maxHeartbeats 4000000 in
theorem cy_Arrays_fill_AIIV_59 {u : ov_U} {F : ov_H × ov_Z} {z : ov_Z} {h : ov_H} (d : Nat) (hd : 0 ≤ d) (U : ov_cap u) (I : ov_Y F z h) (v : Int) (g_v : ov_g v) (p0 : (-1) ≤ v ∧ v ≤ 3) : ov_T u d ov_m14 [ov_r 59, ov_i v] z h (Py_Arrays_fill_AIIV_59 F z h v) := by
  refine ov_en rfl (Nat.le_of_ble_eq_true rfl) ?_
  show ov_R u d ov_m14 0 [(0, ov_r 59), (1, ov_i v)] [] z h (Py_Arrays_fill_AIIV_59 F z h v)
  refine ov_blk (ls2 := [(0, ov_r 59), (1, ov_i v), (2, ov_i 0)]) (st2 := [ov_r 59]) (pc2 := 3) b_14_0_3 rfl rfl ?_
  refine ov_alen d_14_3 (yb_59 I) (ys_59 I) (by decide) ?_
  show ov_R u d ov_m14 4 [(0, ov_r 59), (1, ov_i v), (2, ov_i 0)] [ov_i 54] z h (Py_Arrays_fill_AIIV_59 F z h v)
  refine ov_blk (ls2 := [(0, ov_r 59), (1, ov_i v), (2, ov_i 0), (3, ov_i 54)]) (st2 := []) (pc2 := 5) b_14_4_1 rfl rfl ?_
  have L4 : ∀ (n1 : Nat) (x2 : Int) (z5 : ov_Z) (h6 : ov_H) (I7 : ov_Y F z5 h6) (q3 : 0 ≤ x2 ∧ x2 ≤ 54 ∧ (h6 58 0) = (h 58 0) ∧ (h6 58 1) = (h 58 1)), 54 - x2 < (n1 : Int) → ov_R u d ov_m14 5 [(0, ov_r 59), (1, ov_i v), (2, ov_i x2), (3, ov_i 54)] [] z5 h6 (Py_Arrays_fill_AIIV_59 F z h v) := by
    intro n1
    induction n1 with
    | zero =>
      intro x2 z5 h6 I7 q3 hn8
      exact absurd hn8 (by omega)
    | succ n1 ih2 =>
      intro x2 z5 h6 I7 q3 hn8
      refine ov_blk (ls2 := [(0, ov_r 59), (1, ov_i v), (2, ov_i x2), (3, ov_i 54)]) (st2 := [ov_i 54, ov_i x2]) (pc2 := 7) b_14_5_2 rfl rfl ?_
      refine ov_icge (tgt := 20) d_14_7 (by decide) (by omega) (by omega) (fun c9 => ?_) (fun c9 => ?_)
      · skip
        exact ov_retv (st := []) d_14_20 rfl ⟨rfl, I7, (by show (h6 58 0) = (h 58 0) ∧ (h6 58 1) = (h 58 1); omega)⟩
      · skip
        refine ov_blk (ls2 := [(0, ov_r 59), (1, ov_i v), (2, ov_i x2), (3, ov_i 54)]) (st2 := [ov_i v, ov_i x2, ov_r 59]) (pc2 := 13) b_14_10_3 rfl rfl ?_
        refine ov_iast d_14_13 (yb_59 I7) (ys_59 I7) (by omega) ?_
        have I10 := yu_59 (k := x2) (x := v) I7 (by omega)
        refine ov_blk (ls2 := [(0, ov_r 59), (1, ov_i v), (2, ov_i (x2 + 1)), (3, ov_i 54)]) (st2 := []) (pc2 := 17) b_14_14_1 rfl rfl ?_
        refine ov_goto (tgt := 5) d_14_17 (by decide) ?_
        exact ih2 (x2 + 1) _ _ I10 (by show 0 ≤ (x2 + 1) ∧ (x2 + 1) ≤ 54 ∧ (h6 58 0) = (h 58 0) ∧ (h6 58 1) = (h 58 1); omega) (by omega)
  exact L4 55 0 _ _ I (by show 0 ≤ 0 ∧ 0 ≤ 54 ∧ (h 58 0) = (h 58 0) ∧ (h 58 1) = (h 58 1); omega) (by omega)
abbrev Py_Arrays_fill_AIIV_63 (F : ov_H × ov_Z) (z : ov_Z) (h : ov_H) (v : Int) : Option ov_V → ov_Z → ov_H → Prop := fun r0 z' h' => r0 = none ∧ ov_Y F z' h' ∧ ((h' 58 0) = (h 58 0) ∧ (h' 58 1) = (h 58 1))
set_option maxHeartbeats 4000000 in
theorem cy_Arrays_fill_AIIV_63 {u : ov_U} {F : ov_H × ov_Z} {z : ov_Z} {h : ov_H} (d : Nat) (hd : 0 ≤ d) (U : ov_cap u) (I : ov_Y F z h) (v : Int) (g_v : ov_g v) (p0 : (-2147483648) ≤ v ∧ v ≤ 2147483647) : ov_T u d ov_m14 [ov_r 63, ov_i v] z h (Py_Arrays_fill_AIIV_63 F z h v) := by
  refine ov_en rfl (Nat.le_of_ble_eq_true rfl) ?_
  show ov_R u d ov_m14 0 [(0, ov_r 63), (1, ov_i v)] [] z h (Py_Arrays_fill_AIIV_63 F z h v)
  refine ov_blk (ls2 := [(0, ov_r 63), (1, ov_i v), (2, ov_i 0)]) (st2 := [ov_r 63]) (pc2 := 3) b_14_0_3 rfl rfl ?_
  refine ov_alen d_14_3 (yb_63 I) (ys_63 I) (by decide) ?_
  show ov_R u d ov_m14 4 [(0, ov_r 63), (1, ov_i v), (2, ov_i 0)] [ov_i 54] z h (Py_Arrays_fill_AIIV_63 F z h v)
  refine ov_blk (ls2 := [(0, ov_r 63), (1, ov_i v), (2, ov_i 0), (3, ov_i 54)]) (st2 := []) (pc2 := 5) b_14_4_1 rfl rfl ?_
  have L4 : ∀ (n1 : Nat) (x2 : Int) (z5 : ov_Z) (h6 : ov_H) (I7 : ov_Y F z5 h6) (q3 : 0 ≤ x2 ∧ x2 ≤ 54 ∧ (h6 58 0) = (h 58 0) ∧ (h6 58 1) = (h 58 1)), 54 - x2 < (n1 : Int) → ov_R u d ov_m14 5 [(0, ov_r 63), (1, ov_i v), (2, ov_i x2), (3, ov_i 54)] [] z5 h6 (Py_Arrays_fill_AIIV_63 F z h v) := by
    intro n1
    induction n1 with
    | zero =>
      intro x2 z5 h6 I7 q3 hn8
      exact absurd hn8 (by omega)
    | succ n1 ih2 =>
      intro x2 z5 h6 I7 q3 hn8
      refine ov_blk (ls2 := [(0, ov_r 63), (1, ov_i v), (2, ov_i x2), (3, ov_i 54)]) (st2 := [ov_i 54, ov_i x2]) (pc2 := 7) b_14_5_2 rfl rfl ?_
      refine ov_icge (tgt := 20) d_14_7 (by decide) (by omega) (by omega) (fun c9 => ?_) (fun c9 => ?_)
      · skip
        exact ov_retv (st := []) d_14_20 rfl ⟨rfl, I7, (by show (h6 58 0) = (h 58 0) ∧ (h6 58 1) = (h 58 1); omega)⟩
      · skip
        refine ov_blk (ls2 := [(0, ov_r 63), (1, ov_i v), (2, ov_i x2), (3, ov_i 54)]) (st2 := [ov_i v, ov_i x2, ov_r 63]) (pc2 := 13) b_14_10_3 rfl rfl ?_
        refine ov_iast d_14_13 (yb_63 I7) (ys_63 I7) (by omega) ?_
        have I10 := yu_63 (k := x2) (x := v) I7 (by omega)
        refine ov_blk (ls2 := [(0, ov_r 63), (1, ov_i v), (2, ov_i (x2 + 1)), (3, ov_i 54)]) (st2 := []) (pc2 := 17) b_14_14_1 rfl rfl ?_
        refine ov_goto (tgt := 5) d_14_17 (by decide) ?_
        exact ih2 (x2 + 1) _ _ I10 (by show 0 ≤ (x2 + 1) ∧ (x2 + 1) ≤ 54 ∧ (h6 58 0) = (h 58 0) ∧ (h6 58 1) = (h 58 1); omega) (by omega)
  exact L4 55 0 _ _ I (by show 0 ≤ 0 ∧ 0 ≤ 54 ∧ (h 58 0) = (h 58 0) ∧ (h 58 1) = (h 58 1); omega) (by omega)
abbrev Py_Arrays_fill_AIIV_64 (F : ov_H × ov_Z) (z : ov_Z) (h : ov_H) (v : Int) : Option ov_V → ov_Z → ov_H → Prop := fun r0 z' h' => r0 = none ∧ ov_Y F z' h' ∧ ((h' 58 0) = (h 58 0) ∧ (h' 58 1) = (h 58 1))
set_option maxHeartbeats 4000000 in
theorem cy_Arrays_fill_AIIV_64 {u : ov_U} {F : ov_H × ov_Z} {z : ov_Z} {h : ov_H} (d : Nat) (hd : 0 ≤ d) (U : ov_cap u) (I : ov_Y F z h) (v : Int) (g_v : ov_g v) (p0 : v = -1) : ov_T u d ov_m14 [ov_r 64, ov_i v] z h (Py_Arrays_fill_AIIV_64 F z h v) := by
  refine ov_en rfl (Nat.le_of_ble_eq_true rfl) ?_
  show ov_R u d ov_m14 0 [(0, ov_r 64), (1, ov_i v)] [] z h (Py_Arrays_fill_AIIV_64 F z h v)
  refine ov_blk (ls2 := [(0, ov_r 64), (1, ov_i v), (2, ov_i 0)]) (st2 := [ov_r 64]) (pc2 := 3) b_14_0_3 rfl rfl ?_
  refine ov_alen d_14_3 (yb_64 I) (ys_64 I) (by decide) ?_
  show ov_R u d ov_m14 4 [(0, ov_r 64), (1, ov_i v), (2, ov_i 0)] [ov_i 4] z h (Py_Arrays_fill_AIIV_64 F z h v)
  refine ov_blk (ls2 := [(0, ov_r 64), (1, ov_i v), (2, ov_i 0), (3, ov_i 4)]) (st2 := []) (pc2 := 5) b_14_4_1 rfl rfl ?_
  have L4 : ∀ (n1 : Nat) (x2 : Int) (z5 : ov_Z) (h6 : ov_H) (I7 : ov_Y F z5 h6) (q3 : 0 ≤ x2 ∧ x2 ≤ 4 ∧ (h6 58 0) = (h 58 0) ∧ (h6 58 1) = (h 58 1)), 4 - x2 < (n1 : Int) → ov_R u d ov_m14 5 [(0, ov_r 64), (1, ov_i v), (2, ov_i x2), (3, ov_i 4)] [] z5 h6 (Py_Arrays_fill_AIIV_64 F z h v) := by
    intro n1
    induction n1 with
    | zero =>
      intro x2 z5 h6 I7 q3 hn8
      exact absurd hn8 (by omega)
    | succ n1 ih2 =>
      intro x2 z5 h6 I7 q3 hn8
      refine ov_blk (ls2 := [(0, ov_r 64), (1, ov_i v), (2, ov_i x2), (3, ov_i 4)]) (st2 := [ov_i 4, ov_i x2]) (pc2 := 7) b_14_5_2 rfl rfl ?_
      refine ov_icge (tgt := 20) d_14_7 (by decide) (by omega) (by omega) (fun c9 => ?_) (fun c9 => ?_)
      · skip
        exact ov_retv (st := []) d_14_20 rfl ⟨rfl, I7, (by show (h6 58 0) = (h 58 0) ∧ (h6 58 1) = (h 58 1); omega)⟩
      · skip
        refine ov_blk (ls2 := [(0, ov_r 64), (1, ov_i v), (2, ov_i x2), (3, ov_i 4)]) (st2 := [ov_i v, ov_i x2, ov_r 64]) (pc2 := 13) b_14_10_3 rfl rfl ?_
        refine ov_iast d_14_13 (yb_64 I7) (ys_64 I7) (by omega) ?_
        have I10 := yu_64 (k := x2) (x := v) I7 (by omega)
        refine ov_blk (ls2 := [(0, ov_r 64), (1, ov_i v), (2, ov_i (x2 + 1)), (3, ov_i 4)]) (st2 := []) (pc2 := 17) b_14_14_1 rfl rfl ?_
        refine ov_goto (tgt := 5) d_14_17 (by decide) ?_
        exact ih2 (x2 + 1) _ _ I10 (by show 0 ≤ (x2 + 1) ∧ (x2 + 1) ≤ 4 ∧ (h6 58 0) = (h 58 0) ∧ (h6 58 1) = (h 58 1); omega) (by omega)
  exact L4 5 0 _ _ I (by show 0 ≤ 0 ∧ 0 ≤ 4 ∧ (h 58 0) = (h 58 0) ∧ (h 58 1) = (h 58 1); omega) (by omega)
abbrev Py_Town_clear_58 (F : ov_H × ov_Z) (z : ov_Z) (h : ov_H)  : Option ov_V → ov_Z → ov_H → Prop := fun r0 z' h' => r0 = none ∧ ov_Y F z' h' ∧ ((h' 58 0) = 1 ∧ (h' 58 1) = 1)
set_option maxHeartbeats 4000000 in
theorem cy_Town_clear_58 {u : ov_U} {F : ov_H × ov_Z} {z : ov_Z} {h : ov_H} (d : Nat) (hd : 1 ≤ d) (U : ov_cap u) (I : ov_Y F z h) : ov_T u d ov_m13 [ov_r 58] z h (Py_Town_clear_58 F z h) := by
  refine ov_en rfl (Nat.le_of_ble_eq_true rfl) ?_
  show ov_R u d ov_m13 0 [(0, ov_r 58)] [] z h (Py_Town_clear_58 F z h)
  refine ov_blk (ls2 := [(0, ov_r 58)]) (st2 := [ov_i 1, ov_r 58]) (pc2 := 2) b_13_0_2 rfl rfl ?_
  refine ov_putf (x := 1) d_13_2 fl_Town_46 (yb_58 I) (ys_58 I) rfl nk_0 rfl ?_
  have I1 := yp_58_0 (x := 1) I (by omega)
  refine ov_blk (ls2 := [(0, ov_r 58)]) (st2 := [ov_i 1, ov_r 58]) (pc2 := 7) b_13_5_2 rfl rfl ?_
  refine ov_putf (x := 1) d_13_7 fl_Town_50 (yb_58 I1) (ys_58 I1) rfl nk_0 rfl ?_
  have I2 := yp_58_1 (x := 1) I1 (by omega)
  refine ov_blk (ls2 := [(0, ov_r 58)]) (st2 := [ov_r 58]) (pc2 := 11) b_13_10_1 rfl rfl ?_
  refine ov_getf (v := ov_r 59) d_13_11 fl_Town_9 (yb_58 I2) (ys_58 I2) (congrArg ov_r (yg_58_2 I2)) ?_
  refine ov_blk (ls2 := [(0, ov_r 58)]) (st2 := [ov_i (-1), ov_r 59]) (pc2 := 15) b_13_14_1 rfl rfl ?_
  refine ov_cS (as := [ov_r 59, ov_i (-1)]) (st := []) (d2 := d - 1) d_13_15 lk_Town_53 rfl (Nat.le_of_ble_eq_true rfl) (by omega) (cy_Arrays_fill_AIIV_59 (d - 1) (by omega) U I2 (-1) (by omega) (by omega)) ?_
  rintro _ z4 h5 ⟨rfl, I6, f3⟩
  show ov_R u d ov_m13 18 [(0, ov_r 58)] [] z4 h5 (Py_Town_clear_58 F z h)
  have f7 : (h5 58 0) = 1 ∧ (h5 58 1) = 1 := f3
  clear f3
  refine ov_blk (ls2 := [(0, ov_r 58)]) (st2 := [ov_r 58]) (pc2 := 19) b_13_18_1 rfl rfl ?_
  refine ov_getf (v := ov_r 63) d_13_19 fl_Town_24 (yb_58 I6) (ys_58 I6) (congrArg ov_r (yg_58_6 I6)) ?_
  refine ov_blk (ls2 := [(0, ov_r 58)]) (st2 := [ov_i 0, ov_r 63]) (pc2 := 23) b_13_22_1 rfl rfl ?_
  refine ov_cS (as := [ov_r 63, ov_i 0]) (st := []) (d2 := d - 1) d_13_23 lk_Town_53 rfl (Nat.le_of_ble_eq_true rfl) (by omega) (cy_Arrays_fill_AIIV_63 (d - 1) (by omega) U I6 0 (by omega) (by omega)) ?_
  rintro _ z9 h10 ⟨rfl, I11, f8⟩
  show ov_R u d ov_m13 26 [(0, ov_r 58)] [] z9 h10 (Py_Town_clear_58 F z h)
  have f12 : (h10 58 0) = (h5 58 0) ∧ (h10 58 1) = (h5 58 1) := f8
  clear f8
  refine ov_blk (ls2 := [(0, ov_r 58)]) (st2 := [ov_r 58]) (pc2 := 27) b_13_26_1 rfl rfl ?_
  refine ov_getf (v := ov_r 64) d_13_27 fl_Town_27 (yb_58 I11) (ys_58 I11) (congrArg ov_r (yg_58_7 I11)) ?_
  refine ov_blk (ls2 := [(0, ov_r 58)]) (st2 := [ov_i (-1), ov_r 64]) (pc2 := 31) b_13_30_1 rfl rfl ?_
  refine ov_cS (as := [ov_r 64, ov_i (-1)]) (st := []) (d2 := d - 1) d_13_31 lk_Town_53 rfl (Nat.le_of_ble_eq_true rfl) (by omega) (cy_Arrays_fill_AIIV_64 (d - 1) (by omega) U I11 (-1) (by omega) (by omega)) ?_
  rintro _ z14 h15 ⟨rfl, I16, f13⟩
  show ov_R u d ov_m13 34 [(0, ov_r 58)] [] z14 h15 (Py_Town_clear_58 F z h)
  have f17 : (h15 58 0) = (h10 58 0) ∧ (h15 58 1) = (h10 58 1) := f13
  clear f13
  refine ov_blk (ls2 := [(0, ov_r 58)]) (st2 := [ov_i 0, ov_r 58]) (pc2 := 36) b_13_34_2 rfl rfl ?_
  refine ov_putf (x := 0) d_13_36 fl_Town_59 (yb_58 I16) (ys_58 I16) rfl (nk_3 (by omega)) rfl ?_
  have I18 := yp_58_8 (x := 0) I16 (by omega)
  refine ov_blk (ls2 := [(0, ov_r 58)]) (st2 := [ov_i 0, ov_r 58]) (pc2 := 41) b_13_39_2 rfl rfl ?_
  refine ov_putf (x := 0) d_13_41 fl_Town_63 (yb_58 I18) (ys_58 I18) rfl nk_0 rfl ?_
  have I19 := yp_58_9 (x := 0) I18 (by omega)
  refine ov_blk (ls2 := [(0, ov_r 58)]) (st2 := [ov_i 1, ov_r 58]) (pc2 := 46) b_13_44_2 rfl rfl ?_
  refine ov_putf (x := 1) d_13_46 fl_Town_66 (yb_58 I19) (ys_58 I19) rfl nk_0 rfl ?_
  have I20 := yp_58_10 (x := 1) I19 (by omega)
  refine ov_blk (ls2 := [(0, ov_r 58)]) (st2 := [ov_i 0, ov_r 58]) (pc2 := 51) b_13_49_2 rfl rfl ?_
  refine ov_putf (x := 0) d_13_51 fl_Town_69 (yb_58 I20) (ys_58 I20) rfl nk_0 rfl ?_
  have I21 := yp_58_11 (x := 0) I20 (by omega)
  refine ov_blk (ls2 := [(0, ov_r 58)]) (st2 := [ov_i 0, ov_r 58]) (pc2 := 56) b_13_54_2 rfl rfl ?_
  refine ov_putf (x := 0) d_13_56 fl_Town_72 (yb_58 I21) (ys_58 I21) rfl nk_0 rfl ?_
  have I22 := yp_58_16 (x := 0) I21 (by omega)
  exact ov_retv (st := []) d_13_59 rfl ⟨rfl, I22, (by show (h15 58 0) = 1 ∧ (h15 58 1) = 1; omega)⟩
abbrev Py_Town_isBeyond_58 (F : ov_H × ov_Z) (z : ov_Z) (h : ov_H) (c : Int) (way : Int) : Option ov_V → ov_Z → ov_H → Prop := fun r0 z' h' => ∃ r : Int, r0 = some (ov_i r) ∧ z = z' ∧ h = h' ∧ ((r = 0 ∨ r = 1) ∧ (r = 0 → (way = 0 → c % 6 < (h 58 0) - 1 ∧ (h 58 0) ≤ 6) ∧ (¬ way = 0 → c / 6 < (h 58 1) - 1 ∧ (h 58 1) ≤ 9)))
set_option maxHeartbeats 4000000 in
theorem cy_Town_isBeyond_58 {u : ov_U} {F : ov_H × ov_Z} {z : ov_Z} {h : ov_H} (d : Nat) (hd : 0 ≤ d) (U : ov_cap u) (I : ov_Y F z h) (c : Int) (way : Int) (g_c : ov_g c) (g_way : ov_g way) (p0 : 0 ≤ c ∧ c ≤ 53) : ov_T u d ov_m18 [ov_r 58, ov_i c, ov_i way] z h (Py_Town_isBeyond_58 F z h c way) := by
  refine ov_en rfl (Nat.le_of_ble_eq_true rfl) ?_
  show ov_R u d ov_m18 0 [(0, ov_r 58), (1, ov_i c), (2, ov_i way)] [] z h (Py_Town_isBeyond_58 F z h c way)
  refine ov_blk (ls2 := [(0, ov_r 58), (1, ov_i c), (2, ov_i way)]) (st2 := [ov_i way]) (pc2 := 1) b_18_0_1 rfl rfl ?_
  refine ov_ifne (tgt := 25) d_18_1 (by decide) (by omega) (fun c1 => ?_) (fun c1 => ?_)
  · skip
    refine ov_blk (ls2 := [(0, ov_r 58), (1, ov_i c), (2, ov_i way)]) (st2 := [ov_i 6, ov_i c]) (pc2 := 28) b_18_25_2 rfl rfl ?_
    refine ov_idiv d_18_28 (by omega) (by omega) (by omega) ?_
    have g2 := ov_td (a := c) (b := 6) (by omega)
    refine ov_blk (ls2 := [(0, ov_r 58), (1, ov_i c), (2, ov_i way)]) (st2 := [ov_r 58, ov_i (Int.tdiv c 6)]) (pc2 := 30) b_18_29_1 rfl rfl ?_
    refine ov_getf (v := ov_i (h 58 1)) d_18_30 fl_Town_50 (yb_58 I) (ys_58 I) rfl ?_
    have g3 := yg_58_1 I
    refine ov_blk (ls2 := [(0, ov_r 58), (1, ov_i c), (2, ov_i way)]) (st2 := [ov_i ((h 58 1) - 1), ov_i (Int.tdiv c 6)]) (pc2 := 35) b_18_33_2 rfl rfl ?_
    refine ov_iclt (tgt := 42) d_18_35 (by decide) (by omega) (by omega) (fun c4 => ?_) (fun c4 => ?_)
    · skip
      refine ov_blk (ls2 := [(0, ov_r 58), (1, ov_i c), (2, ov_i way)]) (st2 := [ov_i 0]) (pc2 := 43) b_18_42_1 rfl rfl ?_
      exact ov_retz (st := []) d_18_43 rfl (by omega) ⟨_, rfl, rfl, rfl, (by show (0 = 0 ∨ 0 = 1) ∧ (0 = 0 → (way = 0 → c % 6 < (h 58 0) - 1 ∧ (h 58 0) ≤ 6) ∧ (¬ way = 0 → c / 6 < (h 58 1) - 1 ∧ (h 58 1) ≤ 9)); omega)⟩
    · skip
      refine ov_blk (ls2 := [(0, ov_r 58), (1, ov_i c), (2, ov_i way)]) (st2 := [ov_i 1]) (pc2 := 39) b_18_38_1 rfl rfl ?_
      refine ov_goto (tgt := 43) d_18_39 (by decide) ?_
      exact ov_retz (st := []) d_18_43 rfl (by omega) ⟨_, rfl, rfl, rfl, (by show (1 = 0 ∨ 1 = 1) ∧ (1 = 0 → (way = 0 → c % 6 < (h 58 0) - 1 ∧ (h 58 0) ≤ 6) ∧ (¬ way = 0 → c / 6 < (h 58 1) - 1 ∧ (h 58 1) ≤ 9)); omega)⟩
  · skip
    refine ov_blk (ls2 := [(0, ov_r 58), (1, ov_i c), (2, ov_i way)]) (st2 := [ov_i 6, ov_i c]) (pc2 := 7) b_18_4_2 rfl rfl ?_
    refine ov_irem d_18_7 (by omega) (by omega) (by omega) ?_
    have g5 := ov_tm (a := c) (b := 6) (by omega)
    have g6 := ov_tmg (a := c) (b := 6) (by omega) (by omega)
    refine ov_blk (ls2 := [(0, ov_r 58), (1, ov_i c), (2, ov_i way)]) (st2 := [ov_r 58, ov_i (Int.tmod c 6)]) (pc2 := 9) b_18_8_1 rfl rfl ?_
    refine ov_getf (v := ov_i (h 58 0)) d_18_9 fl_Town_46 (yb_58 I) (ys_58 I) rfl ?_
    have g7 := yg_58_0 I
    refine ov_blk (ls2 := [(0, ov_r 58), (1, ov_i c), (2, ov_i way)]) (st2 := [ov_i ((h 58 0) - 1), ov_i (Int.tmod c 6)]) (pc2 := 14) b_18_12_2 rfl rfl ?_
    refine ov_iclt (tgt := 21) d_18_14 (by decide) (by omega) (by omega) (fun c8 => ?_) (fun c8 => ?_)
    · skip
      refine ov_blk (ls2 := [(0, ov_r 58), (1, ov_i c), (2, ov_i way)]) (st2 := [ov_i 0]) (pc2 := 22) b_18_21_1 rfl rfl ?_
      refine ov_goto (tgt := 43) d_18_22 (by decide) ?_
      exact ov_retz (st := []) d_18_43 rfl (by omega) ⟨_, rfl, rfl, rfl, (by show (0 = 0 ∨ 0 = 1) ∧ (0 = 0 → (way = 0 → c % 6 < (h 58 0) - 1 ∧ (h 58 0) ≤ 6) ∧ (¬ way = 0 → c / 6 < (h 58 1) - 1 ∧ (h 58 1) ≤ 9)); omega)⟩
    · skip
      refine ov_blk (ls2 := [(0, ov_r 58), (1, ov_i c), (2, ov_i way)]) (st2 := [ov_i 1]) (pc2 := 18) b_18_17_1 rfl rfl ?_
      refine ov_goto (tgt := 43) d_18_18 (by decide) ?_
      exact ov_retz (st := []) d_18_43 rfl (by omega) ⟨_, rfl, rfl, rfl, (by show (1 = 0 ∨ 1 = 1) ∧ (1 = 0 → (way = 0 → c % 6 < (h 58 0) - 1 ∧ (h 58 0) ≤ 6) ∧ (¬ way = 0 → c / 6 < (h 58 1) - 1 ∧ (h 58 1) ≤ 9)); omega)⟩
abbrev Py_Town_isBarred_58 (F : ov_H × ov_Z) (z : ov_Z) (h : ov_H) (c : Int) (way : Int) : Option ov_V → ov_Z → ov_H → Prop := fun r0 z' h' => ∃ r : Int, r0 = some (ov_i r) ∧ z = z' ∧ h = h' ∧ ((r = 0 ∨ r = 1))
set_option maxHeartbeats 4000000 in
theorem cy_Town_isBarred_58 {u : ov_U} {F : ov_H × ov_Z} {z : ov_Z} {h : ov_H} (d : Nat) (hd : 0 ≤ d) (U : ov_cap u) (I : ov_Y F z h) (c : Int) (way : Int) (g_c : ov_g c) (g_way : ov_g way) (p0 : 0 ≤ c ∧ c ≤ 53) : ov_T u d ov_m19 [ov_r 58, ov_i c, ov_i way] z h (Py_Town_isBarred_58 F z h c way) := by
  refine ov_en rfl (Nat.le_of_ble_eq_true rfl) ?_
  show ov_R u d ov_m19 0 [(0, ov_r 58), (1, ov_i c), (2, ov_i way)] [] z h (Py_Town_isBarred_58 F z h c way)
  refine ov_blk (ls2 := [(0, ov_r 58), (1, ov_i c), (2, ov_i way)]) (st2 := [ov_r 58]) (pc2 := 1) b_19_0_1 rfl rfl ?_
  refine ov_getf (v := ov_r 63) d_19_1 fl_Town_24 (yb_58 I) (ys_58 I) (congrArg ov_r (yg_58_6 I)) ?_
  refine ov_blk (ls2 := [(0, ov_r 58), (1, ov_i c), (2, ov_i way)]) (st2 := [ov_i c, ov_r 63]) (pc2 := 5) b_19_4_1 rfl rfl ?_
  refine ov_iald d_19_5 (yb_63 I) (ys_63 I) (by omega) ?_
  have g1 := ya_63 I c
  refine ov_blk (ls2 := [(0, ov_r 58), (1, ov_i c), (2, ov_i way)]) (st2 := [ov_i (ov_and (ov_shr (h 63 c) way) 1)]) (pc2 := 10) b_19_6_4 rfl rfl ?_
  have g2 := ov_shrg (h 63 c) way
  have g3 := ov_andg (ov_shr (h 63 c) way) 1
  have g4 := ov_and1 (ov_shr (h 63 c) way)
  refine ov_ifeq (tgt := 17) d_19_10 (by decide) (by omega) (fun c5 => ?_) (fun c5 => ?_)
  · skip
    refine ov_blk (ls2 := [(0, ov_r 58), (1, ov_i c), (2, ov_i way)]) (st2 := [ov_i 0]) (pc2 := 18) b_19_17_1 rfl rfl ?_
    exact ov_retz (st := []) d_19_18 rfl (by omega) ⟨_, rfl, rfl, rfl, (by show (0 = 0 ∨ 0 = 1); omega)⟩
  · skip
    refine ov_blk (ls2 := [(0, ov_r 58), (1, ov_i c), (2, ov_i way)]) (st2 := [ov_i 1]) (pc2 := 14) b_19_13_1 rfl rfl ?_
    refine ov_goto (tgt := 18) d_19_14 (by decide) ?_
    exact ov_retz (st := []) d_19_18 rfl (by omega) ⟨_, rfl, rfl, rfl, (by show (1 = 0 ∨ 1 = 1); omega)⟩
abbrev Py_Town_isTimed_58 (F : ov_H × ov_Z) (z : ov_Z) (h : ov_H) (c : Int) : Option ov_V → ov_Z → ov_H → Prop := fun r0 z' h' => ∃ r : Int, r0 = some (ov_i r) ∧ z = z' ∧ h = h' ∧ ((r = 0 ∨ r = 1))
set_option maxHeartbeats 4000000 in
theorem cy_Town_isTimed_58 {u : ov_U} {F : ov_H × ov_Z} {z : ov_Z} {h : ov_H} (d : Nat) (hd : 0 ≤ d) (U : ov_cap u) (I : ov_Y F z h) (c : Int) (g_c : ov_g c) (p0 : 0 ≤ c ∧ c ≤ 53) : ov_T u d ov_m20 [ov_r 58, ov_i c] z h (Py_Town_isTimed_58 F z h c) := by
  refine ov_en rfl (Nat.le_of_ble_eq_true rfl) ?_
  show ov_R u d ov_m20 0 [(0, ov_r 58), (1, ov_i c)] [] z h (Py_Town_isTimed_58 F z h c)
  refine ov_blk (ls2 := [(0, ov_r 58), (1, ov_i c)]) (st2 := [ov_r 58]) (pc2 := 1) b_20_0_1 rfl rfl ?_
  refine ov_getf (v := ov_r 59) d_20_1 fl_Town_9 (yb_58 I) (ys_58 I) (congrArg ov_r (yg_58_2 I)) ?_
  refine ov_blk (ls2 := [(0, ov_r 58), (1, ov_i c)]) (st2 := [ov_i c, ov_r 59]) (pc2 := 5) b_20_4_1 rfl rfl ?_
  refine ov_iald d_20_5 (yb_59 I) (ys_59 I) (by omega) ?_
  have g1 := ya_59 I c
  refine ov_ifeq (tgt := 19) d_20_6 (by decide) (by omega) (fun c2 => ?_) (fun c2 => ?_)
  · skip
    refine ov_blk (ls2 := [(0, ov_r 58), (1, ov_i c)]) (st2 := [ov_i 1]) (pc2 := 20) b_20_19_1 rfl rfl ?_
    refine ov_goto (tgt := 24) d_20_20 (by decide) ?_
    exact ov_retz (st := []) d_20_24 rfl (by omega) ⟨_, rfl, rfl, rfl, (by show (1 = 0 ∨ 1 = 1); omega)⟩
  · skip
    refine ov_blk (ls2 := [(0, ov_r 58), (1, ov_i c)]) (st2 := [ov_r 58]) (pc2 := 10) b_20_9_1 rfl rfl ?_
    refine ov_getf (v := ov_r 59) d_20_10 fl_Town_9 (yb_58 I) (ys_58 I) (congrArg ov_r (yg_58_2 I)) ?_
    refine ov_blk (ls2 := [(0, ov_r 58), (1, ov_i c)]) (st2 := [ov_i c, ov_r 59]) (pc2 := 14) b_20_13_1 rfl rfl ?_
    refine ov_iald d_20_14 (yb_59 I) (ys_59 I) (by omega) ?_
    refine ov_blk (ls2 := [(0, ov_r 58), (1, ov_i c)]) (st2 := [ov_i 1, ov_i (h 59 c)]) (pc2 := 16) b_20_15_1 rfl rfl ?_
    refine ov_icne (tgt := 23) d_20_16 (by decide) (by omega) (by omega) (fun c4 => ?_) (fun c4 => ?_)
    · skip
      refine ov_blk (ls2 := [(0, ov_r 58), (1, ov_i c)]) (st2 := [ov_i 0]) (pc2 := 24) b_20_23_1 rfl rfl ?_
      exact ov_retz (st := []) d_20_24 rfl (by omega) ⟨_, rfl, rfl, rfl, (by show (0 = 0 ∨ 0 = 1); omega)⟩
    · skip
      refine ov_blk (ls2 := [(0, ov_r 58), (1, ov_i c)]) (st2 := [ov_i 1]) (pc2 := 20) b_20_19_1 rfl rfl ?_
      refine ov_goto (tgt := 24) d_20_20 (by decide) ?_
      exact ov_retz (st := []) d_20_24 rfl (by omega) ⟨_, rfl, rfl, rfl, (by show (1 = 0 ∨ 1 = 1); omega)⟩
abbrev Py_Town_setUnlessTold_58 (F : ov_H × ov_Z) (z : ov_Z) (h : ov_H) (w : Int) (v : Int) : Option ov_V → ov_Z → ov_H → Prop := fun r0 z' h' => r0 = none ∧ ov_Y F z' h' ∧ ((w = 0 → 0 ≤ v → 0 ≤ (h' 64 0)) ∧ (¬ w = 0 → (h' 64 0) = (h 64 0)) ∧ (h' 58 0) = (h 58 0) ∧ (h' 58 1) = (h 58 1))
set_option maxHeartbeats 4000000 in
theorem cy_Town_setUnlessTold_58 {u : ov_U} {F : ov_H × ov_Z} {z : ov_Z} {h : ov_H} (d : Nat) (hd : 0 ≤ d) (U : ov_cap u) (I : ov_Y F z h) (w : Int) (v : Int) (g_w : ov_g w) (g_v : ov_g v) (p0 : 0 ≤ w ∧ w ≤ 3) (p1 : -1 ≤ v ∧ v ≤ 30 ∧ (w = 3 → v ≤ 9)) : ov_T u d ov_m16 [ov_r 58, ov_i w, ov_i v] z h (Py_Town_setUnlessTold_58 F z h w v) := by
  refine ov_en rfl (Nat.le_of_ble_eq_true rfl) ?_
  show ov_R u d ov_m16 0 [(0, ov_r 58), (1, ov_i w), (2, ov_i v)] [] z h (Py_Town_setUnlessTold_58 F z h w v)
  refine ov_blk (ls2 := [(0, ov_r 58), (1, ov_i w), (2, ov_i v)]) (st2 := [ov_r 58]) (pc2 := 1) b_16_0_1 rfl rfl ?_
  refine ov_getf (v := ov_r 64) d_16_1 fl_Town_27 (yb_58 I) (ys_58 I) (congrArg ov_r (yg_58_7 I)) ?_
  refine ov_blk (ls2 := [(0, ov_r 58), (1, ov_i w), (2, ov_i v)]) (st2 := [ov_i w, ov_r 64]) (pc2 := 5) b_16_4_1 rfl rfl ?_
  refine ov_iald d_16_5 (yb_64 I) (ys_64 I) (by omega) ?_
  have g1 := ya_64 I w
  refine ov_blk (ls2 := [(0, ov_r 58), (1, ov_i w), (2, ov_i v)]) (st2 := [ov_i (-1), ov_i (h 64 w)]) (pc2 := 7) b_16_6_1 rfl rfl ?_
  refine ov_icne (tgt := 17) d_16_7 (by decide) (by omega) (by omega) (fun c2 => ?_) (fun c2 => ?_)
  · skip
    have fz : w = 0 → h 64 w = h 64 0 := fun e => by rw [e]
    exact ov_retv (st := []) d_16_17 rfl ⟨rfl, I, (by show (w = 0 → 0 ≤ v → 0 ≤ (h 64 0)) ∧ (¬ w = 0 → (h 64 0) = (h 64 0)) ∧ (h 58 0) = (h 58 0) ∧ (h 58 1) = (h 58 1); omega)⟩
  · skip
    refine ov_blk (ls2 := [(0, ov_r 58), (1, ov_i w), (2, ov_i v)]) (st2 := [ov_r 58]) (pc2 := 11) b_16_10_1 rfl rfl ?_
    refine ov_getf (v := ov_r 64) d_16_11 fl_Town_27 (yb_58 I) (ys_58 I) (congrArg ov_r (yg_58_7 I)) ?_
    refine ov_blk (ls2 := [(0, ov_r 58), (1, ov_i w), (2, ov_i v)]) (st2 := [ov_i v, ov_i w, ov_r 64]) (pc2 := 16) b_16_14_2 rfl rfl ?_
    refine ov_iast d_16_16 (yb_64 I) (ys_64 I) (by omega) ?_
    have I3 := yu_64 (k := w) (x := v) I (by omega)
    have fz : w = 0 → h 64 w = h 64 0 := fun e => by rw [e]
    have fu := ov_up_z (h := h) (a := 64) (k := w) (x := v)
    exact ov_retv (st := []) d_16_17 rfl ⟨rfl, I3, (by show (w = 0 → 0 ≤ v → 0 ≤ ((ov_up h 64 w v) 64 0)) ∧ (¬ w = 0 → ((ov_up h 64 w v) 64 0) = (h 64 0)) ∧ (h 58 0) = (h 58 0) ∧ (h 58 1) = (h 58 1); omega)⟩
abbrev Py_Town_opens_58 (F : ov_H × ov_Z) (z : ov_Z) (h : ov_H) (c : Int) (way : Int) : Option ov_V → ov_Z → ov_H → Prop := fun r0 z' h' => ∃ r : Int, r0 = some (ov_i r) ∧ z = z' ∧ h = h' ∧ ((r = 0 ∨ r = 1) ∧ (r = 1 → (way = 0 ∧ c ≤ 52) ∨ (way = 1 ∧ c ≤ 47)))
set_option maxHeartbeats 4000000 in
theorem cy_Town_opens_58 {u : ov_U} {F : ov_H × ov_Z} {z : ov_Z} {h : ov_H} (d : Nat) (hd : 1 ≤ d) (U : ov_cap u) (I : ov_Y F z h) (c : Int) (way : Int) (g_c : ov_g c) (g_way : ov_g way) (p0 : 0 ≤ c ∧ c ≤ 53) (p1 : way = 0 ∨ way = 1) : ov_T u d ov_m17 [ov_r 58, ov_i c, ov_i way] z h (Py_Town_opens_58 F z h c way) := by
  refine ov_en rfl (Nat.le_of_ble_eq_true rfl) ?_
  show ov_R u d ov_m17 0 [(0, ov_r 58), (1, ov_i c), (2, ov_i way)] [] z h (Py_Town_opens_58 F z h c way)
  refine ov_blk (ls2 := [(0, ov_r 58), (1, ov_i c), (2, ov_i way)]) (st2 := [ov_i way, ov_i c, ov_r 58]) (pc2 := 3) b_17_0_3 rfl rfl ?_
  refine ov_cV (as := [ov_i c, ov_i way]) (st := []) (d2 := d - 1) d_17_3 lk_Town_83 rfl (Nat.le_of_ble_eq_true rfl) (c := 9) (yb_58 I) (ys_58 I) ⟨by decide, rfl⟩ (by omega) (cy_Town_isBeyond_58 (d - 1) (by omega) U I c way (by omega) (by omega) (by omega)) ?_
  rintro _ _ _ ⟨v2, rfl, rfl, rfl, f1⟩
  show ov_R u d ov_m17 6 [(0, ov_r 58), (1, ov_i c), (2, ov_i way)] [ov_i v2] z h (Py_Town_opens_58 F z h c way)
  have f3 : (v2 = 0 ∨ v2 = 1) ∧ (v2 = 0 → (way = 0 → c % 6 < (h 58 0) - 1 ∧ (h 58 0) ≤ 6) ∧ (¬ way = 0 → c / 6 < (h 58 1) - 1 ∧ (h 58 1) ≤ 9)) := f1
  clear f1
  refine ov_ifne (tgt := 18) d_17_6 (by decide) (by omega) (fun c4 => ?_) (fun c4 => ?_)
  · skip
    refine ov_blk (ls2 := [(0, ov_r 58), (1, ov_i c), (2, ov_i way)]) (st2 := [ov_i 0]) (pc2 := 19) b_17_18_1 rfl rfl ?_
    exact ov_retz (st := []) d_17_19 rfl (by omega) ⟨_, rfl, rfl, rfl, (by show (0 = 0 ∨ 0 = 1) ∧ (0 = 1 → (way = 0 ∧ c ≤ 52) ∨ (way = 1 ∧ c ≤ 47)); omega)⟩
  · skip
    refine ov_blk (ls2 := [(0, ov_r 58), (1, ov_i c), (2, ov_i way)]) (st2 := [ov_i way, ov_i c, ov_r 58]) (pc2 := 12) b_17_9_3 rfl rfl ?_
    refine ov_cV (as := [ov_i c, ov_i way]) (st := []) (d2 := d - 1) d_17_12 lk_Town_86 rfl (Nat.le_of_ble_eq_true rfl) (c := 9) (yb_58 I) (ys_58 I) ⟨by decide, rfl⟩ (by omega) (cy_Town_isBarred_58 (d - 1) (by omega) U I c way (by omega) (by omega) (by omega)) ?_
    rintro _ _ _ ⟨v6, rfl, rfl, rfl, f5⟩
    show ov_R u d ov_m17 15 [(0, ov_r 58), (1, ov_i c), (2, ov_i way)] [ov_i v6] z h (Py_Town_opens_58 F z h c way)
    have f7 : (v6 = 0 ∨ v6 = 1) := f5
    clear f5
    refine ov_ifeq (tgt := 20) d_17_15 (by decide) (by omega) (fun c8 => ?_) (fun c8 => ?_)
    · skip
      refine ov_blk (ls2 := [(0, ov_r 58), (1, ov_i c), (2, ov_i way)]) (st2 := [ov_i c, ov_r 58]) (pc2 := 22) b_17_20_2 rfl rfl ?_
      refine ov_cV (as := [ov_i c]) (st := []) (d2 := d - 1) d_17_22 lk_Town_89 rfl (Nat.le_of_ble_eq_true rfl) (c := 9) (yb_58 I) (ys_58 I) ⟨by decide, rfl⟩ (by omega) (cy_Town_isTimed_58 (d - 1) (by omega) U I c (by omega) (by omega)) ?_
      rintro _ _ _ ⟨v10, rfl, rfl, rfl, f9⟩
      show ov_R u d ov_m17 25 [(0, ov_r 58), (1, ov_i c), (2, ov_i way)] [ov_i v10] z h (Py_Town_opens_58 F z h c way)
      have f11 : (v10 = 0 ∨ v10 = 1) := f9
      clear f9
      refine ov_ifeq (tgt := 59) d_17_25 (by decide) (by omega) (fun c12 => ?_) (fun c12 => ?_)
      · skip
        refine ov_blk (ls2 := [(0, ov_r 58), (1, ov_i c), (2, ov_i way)]) (st2 := [ov_i 1]) (pc2 := 60) b_17_59_1 rfl rfl ?_
        refine ov_goto (tgt := 64) d_17_60 (by decide) ?_
        exact ov_retz (st := []) d_17_64 rfl (by omega) ⟨_, rfl, rfl, rfl, (by show (1 = 0 ∨ 1 = 1) ∧ (1 = 1 → (way = 0 ∧ c ≤ 52) ∨ (way = 1 ∧ c ≤ 47)); omega)⟩
      · skip
        refine ov_blk (ls2 := [(0, ov_r 58), (1, ov_i c), (2, ov_i way)]) (st2 := [ov_i way]) (pc2 := 29) b_17_28_1 rfl rfl ?_
        refine ov_ifne (tgt := 44) d_17_29 (by decide) (by omega) (fun c13 => ?_) (fun c13 => ?_)
        · skip
          refine ov_blk (ls2 := [(0, ov_r 58), (1, ov_i c), (2, ov_i way)]) (st2 := [ov_r 58]) (pc2 := 45) b_17_44_1 rfl rfl ?_
          refine ov_getf (v := ov_r 62) d_17_45 fl_Town_21 (yb_58 I) (ys_58 I) (congrArg ov_r (yg_58_5 I)) ?_
          refine ov_blk (ls2 := [(0, ov_r 58), (1, ov_i c), (2, ov_i way)]) (st2 := [ov_i c, ov_r 62]) (pc2 := 49) b_17_48_1 rfl rfl ?_
          refine ov_iald d_17_49 (yb_62 I) (ys_62 I) (by omega) ?_
          have g14 := ya_62 I c
          refine ov_blk (ls2 := [(0, ov_r 58), (1, ov_i c), (2, ov_i way)]) (st2 := [ov_r 58, ov_i (h 62 c)]) (pc2 := 51) b_17_50_1 rfl rfl ?_
          refine ov_getf (v := ov_r 60) d_17_51 fl_Town_15 (yb_58 I) (ys_58 I) (congrArg ov_r (yg_58_3 I)) ?_
          refine ov_blk (ls2 := [(0, ov_r 58), (1, ov_i c), (2, ov_i way)]) (st2 := [ov_i c, ov_r 60, ov_i (h 62 c)]) (pc2 := 55) b_17_54_1 rfl rfl ?_
          refine ov_iald d_17_55 (yb_60 I) (ys_60 I) (by omega) ?_
          have g15 := ya_60 I c
          refine ov_icge (tgt := 63) d_17_56 (by decide) (by omega) (by omega) (fun c16 => ?_) (fun c16 => ?_)
          · skip
            refine ov_blk (ls2 := [(0, ov_r 58), (1, ov_i c), (2, ov_i way)]) (st2 := [ov_i 0]) (pc2 := 64) b_17_63_1 rfl rfl ?_
            exact ov_retz (st := []) d_17_64 rfl (by omega) ⟨_, rfl, rfl, rfl, (by show (0 = 0 ∨ 0 = 1) ∧ (0 = 1 → (way = 0 ∧ c ≤ 52) ∨ (way = 1 ∧ c ≤ 47)); omega)⟩
          · skip
            refine ov_blk (ls2 := [(0, ov_r 58), (1, ov_i c), (2, ov_i way)]) (st2 := [ov_i 1]) (pc2 := 60) b_17_59_1 rfl rfl ?_
            refine ov_goto (tgt := 64) d_17_60 (by decide) ?_
            exact ov_retz (st := []) d_17_64 rfl (by omega) ⟨_, rfl, rfl, rfl, (by show (1 = 0 ∨ 1 = 1) ∧ (1 = 1 → (way = 0 ∧ c ≤ 52) ∨ (way = 1 ∧ c ≤ 47)); omega)⟩
        · skip
          refine ov_blk (ls2 := [(0, ov_r 58), (1, ov_i c), (2, ov_i way)]) (st2 := [ov_r 58]) (pc2 := 33) b_17_32_1 rfl rfl ?_
          refine ov_getf (v := ov_r 62) d_17_33 fl_Town_21 (yb_58 I) (ys_58 I) (congrArg ov_r (yg_58_5 I)) ?_
          refine ov_blk (ls2 := [(0, ov_r 58), (1, ov_i c), (2, ov_i way)]) (st2 := [ov_i c, ov_r 62]) (pc2 := 37) b_17_36_1 rfl rfl ?_
          refine ov_iald d_17_37 (yb_62 I) (ys_62 I) (by omega) ?_
          have g17 := ya_62 I c
          refine ov_ifle (tgt := 63) d_17_38 (by decide) (by omega) (fun c18 => ?_) (fun c18 => ?_)
          · skip
            refine ov_blk (ls2 := [(0, ov_r 58), (1, ov_i c), (2, ov_i way)]) (st2 := [ov_i 0]) (pc2 := 64) b_17_63_1 rfl rfl ?_
            exact ov_retz (st := []) d_17_64 rfl (by omega) ⟨_, rfl, rfl, rfl, (by show (0 = 0 ∨ 0 = 1) ∧ (0 = 1 → (way = 0 ∧ c ≤ 52) ∨ (way = 1 ∧ c ≤ 47)); omega)⟩
          · skip
            refine ov_goto (tgt := 59) d_17_41 (by decide) ?_
            refine ov_blk (ls2 := [(0, ov_r 58), (1, ov_i c), (2, ov_i way)]) (st2 := [ov_i 1]) (pc2 := 60) b_17_59_1 rfl rfl ?_
            refine ov_goto (tgt := 64) d_17_60 (by decide) ?_
            exact ov_retz (st := []) d_17_64 rfl (by omega) ⟨_, rfl, rfl, rfl, (by show (1 = 0 ∨ 1 = 1) ∧ (1 = 1 → (way = 0 ∧ c ≤ 52) ∨ (way = 1 ∧ c ≤ 47)); omega)⟩
    · skip
      refine ov_blk (ls2 := [(0, ov_r 58), (1, ov_i c), (2, ov_i way)]) (st2 := [ov_i 0]) (pc2 := 19) b_17_18_1 rfl rfl ?_
      exact ov_retz (st := []) d_17_19 rfl (by omega) ⟨_, rfl, rfl, rfl, (by show (0 = 0 ∨ 0 = 1) ∧ (0 = 1 → (way = 0 ∧ c ≤ 52) ∨ (way = 1 ∧ c ≤ 47)); omega)⟩
abbrev Py_Town_complete_58 (F : ov_H × ov_Z) (z : ov_Z) (h : ov_H)  : Option ov_V → ov_Z → ov_H → Prop := fun r0 z' h' => r0 = none ∧ ov_Y F z' h' ∧ (0 ≤ (h' 64 0) ∧ (h' 58 0) = (h 58 0) ∧ (h' 58 1) = (h 58 1))
set_option maxHeartbeats 4000000 in
theorem cy_Town_complete_58 {u : ov_U} {F : ov_H × ov_Z} {z : ov_Z} {h : ov_H} (d : Nat) (hd : 2 ≤ d) (U : ov_cap u) (I : ov_Y F z h) : ov_T u d ov_m15 [ov_r 58] z h (Py_Town_complete_58 F z h) := by
  refine ov_en rfl (Nat.le_of_ble_eq_true rfl) ?_
  show ov_R u d ov_m15 0 [(0, ov_r 58)] [] z h (Py_Town_complete_58 F z h)
  refine ov_blk (ls2 := [(0, ov_r 58)]) (st2 := [ov_i 10, ov_i 0, ov_r 58]) (pc2 := 4) b_15_0_3 rfl rfl ?_
  refine ov_cV (as := [ov_i 0, ov_i 10]) (st := []) (d2 := d - 1) d_15_4 lk_Town_75 rfl (Nat.le_of_ble_eq_true rfl) (c := 9) (yb_58 I) (ys_58 I) ⟨by decide, rfl⟩ (by omega) (cy_Town_setUnlessTold_58 (d - 1) (by omega) U I 0 10 (by omega) (by omega) (by omega) (by omega)) ?_
  rintro _ z2 h3 ⟨rfl, I4, f1⟩
  show ov_R u d ov_m15 7 [(0, ov_r 58)] [] z2 h3 (Py_Town_complete_58 F z h)
  have f5 : ((0 : Int) = 0 → 0 ≤ (10 : Int) → 0 ≤ (h3 64 0)) ∧ (¬ (0 : Int) = 0 → (h3 64 0) = (h 64 0)) ∧ (h3 58 0) = (h 58 0) ∧ (h3 58 1) = (h 58 1) := f1
  clear f1
  refine ov_blk (ls2 := [(0, ov_r 58)]) (st2 := [ov_r 58, ov_i 1, ov_r 58]) (pc2 := 10) b_15_7_3 rfl rfl ?_
  refine ov_getf (v := ov_r 64) d_15_10 fl_Town_27 (yb_58 I4) (ys_58 I4) (congrArg ov_r (yg_58_7 I4)) ?_
  refine ov_blk (ls2 := [(0, ov_r 58)]) (st2 := [ov_i 0, ov_r 64, ov_i 1, ov_r 58]) (pc2 := 14) b_15_13_1 rfl rfl ?_
  refine ov_iald d_15_14 (yb_64 I4) (ys_64 I4) (by omega) ?_
  have g6 := ya_64 I4 0
  refine ov_cV (as := [ov_i 1, ov_i (h3 64 0)]) (st := []) (d2 := d - 1) d_15_15 lk_Town_75 rfl (Nat.le_of_ble_eq_true rfl) (c := 9) (yb_58 I4) (ys_58 I4) ⟨by decide, rfl⟩ (by omega) (cy_Town_setUnlessTold_58 (d - 1) (by omega) U I4 1 (h3 64 0) (by omega) (by omega) (by omega) (by omega)) ?_
  rintro _ z8 h9 ⟨rfl, I10, f7⟩
  show ov_R u d ov_m15 18 [(0, ov_r 58)] [] z8 h9 (Py_Town_complete_58 F z h)
  have f11 : ((1 : Int) = 0 → 0 ≤ (h3 64 0) → 0 ≤ (h9 64 0)) ∧ (¬ (1 : Int) = 0 → (h9 64 0) = (h3 64 0)) ∧ (h9 58 0) = (h3 58 0) ∧ (h9 58 1) = (h3 58 1) := f7
  clear f7
  refine ov_blk (ls2 := [(0, ov_r 58)]) (st2 := [ov_r 58, ov_i 2, ov_r 58]) (pc2 := 21) b_15_18_3 rfl rfl ?_
  refine ov_getf (v := ov_r 64) d_15_21 fl_Town_27 (yb_58 I10) (ys_58 I10) (congrArg ov_r (yg_58_7 I10)) ?_
  refine ov_blk (ls2 := [(0, ov_r 58)]) (st2 := [ov_i 0, ov_r 64, ov_i 2, ov_r 58]) (pc2 := 25) b_15_24_1 rfl rfl ?_
  refine ov_iald d_15_25 (yb_64 I10) (ys_64 I10) (by omega) ?_
  have g12 := ya_64 I10 0
  refine ov_cV (as := [ov_i 2, ov_i (h9 64 0)]) (st := []) (d2 := d - 1) d_15_26 lk_Town_75 rfl (Nat.le_of_ble_eq_true rfl) (c := 9) (yb_58 I10) (ys_58 I10) ⟨by decide, rfl⟩ (by omega) (cy_Town_setUnlessTold_58 (d - 1) (by omega) U I10 2 (h9 64 0) (by omega) (by omega) (by omega) (by omega)) ?_
  rintro _ z14 h15 ⟨rfl, I16, f13⟩
  show ov_R u d ov_m15 29 [(0, ov_r 58)] [] z14 h15 (Py_Town_complete_58 F z h)
  have f17 : ((2 : Int) = 0 → 0 ≤ (h9 64 0) → 0 ≤ (h15 64 0)) ∧ (¬ (2 : Int) = 0 → (h15 64 0) = (h9 64 0)) ∧ (h15 58 0) = (h9 58 0) ∧ (h15 58 1) = (h9 58 1) := f13
  clear f13
  refine ov_blk (ls2 := [(0, ov_r 58)]) (st2 := [ov_i 0, ov_i 3, ov_r 58]) (pc2 := 32) b_15_29_3 rfl rfl ?_
  refine ov_cV (as := [ov_i 3, ov_i 0]) (st := []) (d2 := d - 1) d_15_32 lk_Town_75 rfl (Nat.le_of_ble_eq_true rfl) (c := 9) (yb_58 I16) (ys_58 I16) ⟨by decide, rfl⟩ (by omega) (cy_Town_setUnlessTold_58 (d - 1) (by omega) U I16 3 0 (by omega) (by omega) (by omega) (by omega)) ?_
  rintro _ z19 h20 ⟨rfl, I21, f18⟩
  show ov_R u d ov_m15 35 [(0, ov_r 58)] [] z19 h20 (Py_Town_complete_58 F z h)
  have f22 : ((3 : Int) = 0 → 0 ≤ (0 : Int) → 0 ≤ (h20 64 0)) ∧ (¬ (3 : Int) = 0 → (h20 64 0) = (h15 64 0)) ∧ (h20 58 0) = (h15 58 0) ∧ (h20 58 1) = (h15 58 1) := f18
  clear f18
  refine ov_blk (ls2 := [(0, ov_r 58), (1, ov_i 0)]) (st2 := []) (pc2 := 37) b_15_35_2 rfl rfl ?_
  have L26 : ∀ (n23 : Nat) (x1 : Int) (z27 : ov_Z) (h28 : ov_H) (I29 : ov_Y F z27 h28) (q25 : 0 ≤ x1 ∧ x1 ≤ 54 ∧ 0 ≤ (h28 64 0) ∧ (h28 58 0) = (h 58 0) ∧ (h28 58 1) = (h 58 1)), 54 - x1 < (n23 : Int) → ov_R u d ov_m15 37 [(0, ov_r 58), (1, ov_i x1)] [] z27 h28 (Py_Town_complete_58 F z h) := by
    intro n23
    induction n23 with
    | zero =>
      intro x1 z27 h28 I29 q25 hn30
      exact absurd hn30 (by omega)
    | succ n23 ih24 =>
      intro x1 z27 h28 I29 q25 hn30
      refine ov_blk (ls2 := [(0, ov_r 58), (1, ov_i x1)]) (st2 := [ov_i 54, ov_i x1]) (pc2 := 40) b_15_37_2 rfl rfl ?_
      refine ov_icge (tgt := 84) d_15_40 (by decide) (by omega) (by omega) (fun c31 => ?_) (fun c31 => ?_)
      · skip
        exact ov_retv (st := []) d_15_84 rfl ⟨rfl, I29, (by show 0 ≤ (h28 64 0) ∧ (h28 58 0) = (h 58 0) ∧ (h28 58 1) = (h 58 1); omega)⟩
      · skip
        refine ov_blk (ls2 := [(0, ov_r 58), (1, ov_i x1)]) (st2 := [ov_r 58]) (pc2 := 44) b_15_43_1 rfl rfl ?_
        refine ov_getf (v := ov_r 65) d_15_44 fl_Town_30 (yb_58 I29) (ys_58 I29) (congrArg ov_r (yg_58_12 I29)) ?_
        refine ov_blk (ls2 := [(0, ov_r 58), (1, ov_i x1)]) (st2 := [ov_i 0, ov_i x1, ov_r 58, ov_i x1, ov_r 65]) (pc2 := 51) b_15_47_4 rfl rfl ?_
        refine ov_cV (as := [ov_i x1, ov_i 0]) (st := [ov_i x1, ov_r 65]) (d2 := d - 1) d_15_51 lk_Town_79 rfl (Nat.le_of_ble_eq_true rfl) (c := 9) (yb_58 I29) (ys_58 I29) ⟨by decide, rfl⟩ (by omega) (cy_Town_opens_58 (d - 1) (by omega) U I29 x1 0 (by omega) (by omega) (by omega) (by omega)) ?_
        rintro _ _ _ ⟨v33, rfl, rfl, rfl, f32⟩
        show ov_R u d ov_m15 54 [(0, ov_r 58), (1, ov_i x1)] [ov_i v33, ov_i x1, ov_r 65] z27 h28 (Py_Town_complete_58 F z h)
        have f34 : (v33 = 0 ∨ v33 = 1) ∧ (v33 = 1 → ((0 : Int) = 0 ∧ x1 ≤ 52) ∨ ((0 : Int) = 1 ∧ x1 ≤ 47)) := f32
        clear f32
        refine ov_ifeq (tgt := 61) d_15_54 (by decide) (by omega) (fun c35 => ?_) (fun c35 => ?_)
        · skip
          refine ov_blk (ls2 := [(0, ov_r 58), (1, ov_i x1)]) (st2 := [ov_i 1, ov_i x1, ov_r 58, ov_i 0, ov_i x1, ov_r 65]) (pc2 := 65) b_15_61_4 rfl rfl ?_
          refine ov_cV (as := [ov_i x1, ov_i 1]) (st := [ov_i 0, ov_i x1, ov_r 65]) (d2 := d - 1) d_15_65 lk_Town_79 rfl (Nat.le_of_ble_eq_true rfl) (c := 9) (yb_58 I29) (ys_58 I29) ⟨by decide, rfl⟩ (by omega) (cy_Town_opens_58 (d - 1) (by omega) U I29 x1 1 (by omega) (by omega) (by omega) (by omega)) ?_
          rintro _ _ _ ⟨v37, rfl, rfl, rfl, f36⟩
          show ov_R u d ov_m15 68 [(0, ov_r 58), (1, ov_i x1)] [ov_i v37, ov_i 0, ov_i x1, ov_r 65] z27 h28 (Py_Town_complete_58 F z h)
          have f38 : (v37 = 0 ∨ v37 = 1) ∧ (v37 = 1 → ((1 : Int) = 0 ∧ x1 ≤ 52) ∨ ((1 : Int) = 1 ∧ x1 ≤ 47)) := f36
          clear f36
          refine ov_ifeq (tgt := 75) d_15_68 (by decide) (by omega) (fun c39 => ?_) (fun c39 => ?_)
          · skip
            refine ov_blk (ls2 := [(0, ov_r 58), (1, ov_i x1)]) (st2 := [ov_i (0 + 0), ov_i x1, ov_r 65]) (pc2 := 77) b_15_75_2 rfl rfl ?_
            refine ov_iast d_15_77 (yb_65 I29) (ys_65 I29) (by omega) ?_
            have I40 := yu_65 (k := x1) (x := (0 + 0)) I29 (by omega)
            refine ov_blk (ls2 := [(0, ov_r 58), (1, ov_i (x1 + 1))]) (st2 := []) (pc2 := 81) b_15_78_1 rfl rfl ?_
            refine ov_goto (tgt := 37) d_15_81 (by decide) ?_
            exact ih24 (x1 + 1) _ _ I40 (by show 0 ≤ (x1 + 1) ∧ (x1 + 1) ≤ 54 ∧ 0 ≤ (h28 64 0) ∧ (h28 58 0) = (h 58 0) ∧ (h28 58 1) = (h 58 1); omega) (by omega)
          · skip
            refine ov_blk (ls2 := [(0, ov_r 58), (1, ov_i x1)]) (st2 := [ov_i 2, ov_i 0, ov_i x1, ov_r 65]) (pc2 := 72) b_15_71_1 rfl rfl ?_
            refine ov_goto (tgt := 76) d_15_72 (by decide) ?_
            refine ov_blk (ls2 := [(0, ov_r 58), (1, ov_i x1)]) (st2 := [ov_i (0 + 2), ov_i x1, ov_r 65]) (pc2 := 77) b_15_76_1 rfl rfl ?_
            refine ov_iast d_15_77 (yb_65 I29) (ys_65 I29) (by omega) ?_
            have I41 := yu_65 (k := x1) (x := (0 + 2)) I29 (by omega)
            refine ov_blk (ls2 := [(0, ov_r 58), (1, ov_i (x1 + 1))]) (st2 := []) (pc2 := 81) b_15_78_1 rfl rfl ?_
            refine ov_goto (tgt := 37) d_15_81 (by decide) ?_
            exact ih24 (x1 + 1) _ _ I41 (by show 0 ≤ (x1 + 1) ∧ (x1 + 1) ≤ 54 ∧ 0 ≤ (h28 64 0) ∧ (h28 58 0) = (h 58 0) ∧ (h28 58 1) = (h 58 1); omega) (by omega)
        · skip
          refine ov_blk (ls2 := [(0, ov_r 58), (1, ov_i x1)]) (st2 := [ov_i 1, ov_i x1, ov_r 65]) (pc2 := 58) b_15_57_1 rfl rfl ?_
          refine ov_goto (tgt := 62) d_15_58 (by decide) ?_
          refine ov_blk (ls2 := [(0, ov_r 58), (1, ov_i x1)]) (st2 := [ov_i 1, ov_i x1, ov_r 58, ov_i 1, ov_i x1, ov_r 65]) (pc2 := 65) b_15_62_3 rfl rfl ?_
          refine ov_cV (as := [ov_i x1, ov_i 1]) (st := [ov_i 1, ov_i x1, ov_r 65]) (d2 := d - 1) d_15_65 lk_Town_79 rfl (Nat.le_of_ble_eq_true rfl) (c := 9) (yb_58 I29) (ys_58 I29) ⟨by decide, rfl⟩ (by omega) (cy_Town_opens_58 (d - 1) (by omega) U I29 x1 1 (by omega) (by omega) (by omega) (by omega)) ?_
          rintro _ _ _ ⟨v43, rfl, rfl, rfl, f42⟩
          show ov_R u d ov_m15 68 [(0, ov_r 58), (1, ov_i x1)] [ov_i v43, ov_i 1, ov_i x1, ov_r 65] z27 h28 (Py_Town_complete_58 F z h)
          have f44 : (v43 = 0 ∨ v43 = 1) ∧ (v43 = 1 → ((1 : Int) = 0 ∧ x1 ≤ 52) ∨ ((1 : Int) = 1 ∧ x1 ≤ 47)) := f42
          clear f42
          refine ov_ifeq (tgt := 75) d_15_68 (by decide) (by omega) (fun c45 => ?_) (fun c45 => ?_)
          · skip
            refine ov_blk (ls2 := [(0, ov_r 58), (1, ov_i x1)]) (st2 := [ov_i (1 + 0), ov_i x1, ov_r 65]) (pc2 := 77) b_15_75_2 rfl rfl ?_
            refine ov_iast d_15_77 (yb_65 I29) (ys_65 I29) (by omega) ?_
            have I46 := yu_65 (k := x1) (x := (1 + 0)) I29 (by omega)
            refine ov_blk (ls2 := [(0, ov_r 58), (1, ov_i (x1 + 1))]) (st2 := []) (pc2 := 81) b_15_78_1 rfl rfl ?_
            refine ov_goto (tgt := 37) d_15_81 (by decide) ?_
            exact ih24 (x1 + 1) _ _ I46 (by show 0 ≤ (x1 + 1) ∧ (x1 + 1) ≤ 54 ∧ 0 ≤ (h28 64 0) ∧ (h28 58 0) = (h 58 0) ∧ (h28 58 1) = (h 58 1); omega) (by omega)
          · skip
            refine ov_blk (ls2 := [(0, ov_r 58), (1, ov_i x1)]) (st2 := [ov_i 2, ov_i 1, ov_i x1, ov_r 65]) (pc2 := 72) b_15_71_1 rfl rfl ?_
            refine ov_goto (tgt := 76) d_15_72 (by decide) ?_
            refine ov_blk (ls2 := [(0, ov_r 58), (1, ov_i x1)]) (st2 := [ov_i (1 + 2), ov_i x1, ov_r 65]) (pc2 := 77) b_15_76_1 rfl rfl ?_
            refine ov_iast d_15_77 (yb_65 I29) (ys_65 I29) (by omega) ?_
            have I47 := yu_65 (k := x1) (x := (1 + 2)) I29 (by omega)
            refine ov_blk (ls2 := [(0, ov_r 58), (1, ov_i (x1 + 1))]) (st2 := []) (pc2 := 81) b_15_78_1 rfl rfl ?_
            refine ov_goto (tgt := 37) d_15_81 (by decide) ?_
            exact ih24 (x1 + 1) _ _ I47 (by show 0 ≤ (x1 + 1) ∧ (x1 + 1) ≤ 54 ∧ 0 ≤ (h28 64 0) ∧ (h28 58 0) = (h 58 0) ∧ (h28 58 1) = (h 58 1); omega) (by omega)
  exact L26 55 0 _ _ I21 (by show 0 ≤ 0 ∧ 0 ≤ 54 ∧ 0 ≤ (h20 64 0) ∧ (h20 58 0) = (h 58 0) ∧ (h20 58 1) = (h 58 1); omega) (by omega)

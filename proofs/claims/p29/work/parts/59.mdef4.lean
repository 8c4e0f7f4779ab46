/-! who comes home: what the reference's worth says, as a fact of the town -/
def ov_fa (a b c d : Int) : Int → Int := fun j => if j = 0 then a else if j = 1 then b else if j = 2 then c else d
/-- which way a goer goes who isn't the best; none -/
def ov_wy (f g p : Int → Int) (go x y seen : Int) : Int :=
  if ov_cgi f x y 0 = 1 then
    (if ov_cgi f x y 1 = 1 then
      (if go < 2 then go
       else if go = 2 then (if ov_wm f (6 * y + x) 0 seen ≤ ov_wm f (6 * y + x) 1 seen then 0 else 1)
       else (if ov_rw g p (ov_fa (ov_wm f (6 * y + x) 0 seen) (ov_wm f (6 * y + x) 1 seen) (f 0 - 1 - x) (f 1 - 1 - y)) (f (280 + go - 4)) = 0 then 1 else 0))
     else 0)
  else if ov_cgi f x y 1 = 1 then 1 else -1
/-- the second of the common round behind a street -/
def ov_nx (f : Int → Int) (t w : Int) : Int := (t + w + f 2) % f 9
/-- with the light as it is seen -/
def ov_gs (f g p : Int → Int) (G : Int → Int → Int → Prop) (go x y t seen : Int) : Prop :=
  (go = 3 ∧ ((ov_cgi f x y 0 = 1 ∧ G (x + 1 - 0) (y + 0) (ov_nx f t (ov_wm f (6 * y + x) 0 seen))) ∨ (ov_cgi f x y 1 = 1 ∧ G (x + 1 - 1) (y + 1) (ov_nx f t (ov_wm f (6 * y + x) 1 seen))))) ∨
  (¬ go = 3 ∧ 0 ≤ ov_wy f g p go x y seen ∧ G (x + 1 - ov_wy f g p go x y seen) (y + ov_wy f g p go x y seen) (ov_nx f t (ov_wm f (6 * y + x) (ov_wy f g p go x y seen) seen)))
/-- whether one comes home: by seconds of the common round; s the state's row, wt the corner watched, sh how it stands -/
def ov_gd (f s g p : Int → Int) (go wt sh : Int) : Nat → Int → Int → Int → Prop
  | 0, _, _, _ => False
  | k + 1, x, y, t => (x = f 0 - 1 ∧ y = f 1 - 1) ∨ (¬ (x = f 0 - 1 ∧ y = f 1 - 1) ∧
      (((f (10 + 4 * (6 * y + x)) = 2 ∧ ¬ s (4 + 6 * y + x) = 1 ∧ ¬ 6 * y + x = wt) ∧ ∀ q : Int, 0 ≤ q → q < f (10 + 4 * (6 * y + x) + 1) → ov_gs f g p (ov_gd f s g p go wt sh k) go x y t q) ∨
       (¬ (f (10 + 4 * (6 * y + x)) = 2 ∧ ¬ s (4 + 6 * y + x) = 1 ∧ ¬ 6 * y + x = wt) ∧ ov_gs f g p (ov_gd f s g p go wt sh k) go x y t (if 6 * y + x = wt then t + sh else t))))
def ov_go (f s g p : Int → Int) (go wt sh x y t : Int) : Prop := ov_gd f s g p go wt sh (14 - x - y).toNat x y t
theorem ov_gs_con {f g p : Int → Int} {G G' : Int → Int → Int → Prop} {go x y t seen : Int} (hG : ∀ w u : Int, G (x + 1 - w) (y + w) u ↔ G' (x + 1 - w) (y + w) u) : ov_gs f g p G go x y t seen ↔ ov_gs f g p G' go x y t seen := by
  unfold ov_gs
  rw [hG 0, hG 1, hG (ov_wy f g p go x y seen)]
theorem ov_go_eq {f s g p : Int → Int} {go wt sh x y t : Int} (hs : x + y ≤ 13) : ov_go f s g p go wt sh x y t ↔ (x = f 0 - 1 ∧ y = f 1 - 1) ∨ (¬ (x = f 0 - 1 ∧ y = f 1 - 1) ∧
      (((f (10 + 4 * (6 * y + x)) = 2 ∧ ¬ s (4 + 6 * y + x) = 1 ∧ ¬ 6 * y + x = wt) ∧ ∀ q : Int, 0 ≤ q → q < f (10 + 4 * (6 * y + x) + 1) → ov_gs f g p (ov_go f s g p go wt sh) go x y t q) ∨
       (¬ (f (10 + 4 * (6 * y + x)) = 2 ∧ ¬ s (4 + 6 * y + x) = 1 ∧ ¬ 6 * y + x = wt) ∧ ov_gs f g p (ov_go f s g p go wt sh) go x y t (if 6 * y + x = wt then t + sh else t)))) := by
  obtain ⟨k, hk⟩ : ∃ k : Nat, (14 - x - y).toNat = k + 1 := ⟨(13 - x - y).toNat, by omega⟩
  have hG : ∀ w u : Int, ov_gd f s g p go wt sh k (x + 1 - w) (y + w) u ↔ ov_go f s g p go wt sh (x + 1 - w) (y + w) u := fun w u => by
    unfold ov_go
    rw [show (14 - (x + 1 - w) - (y + w)).toNat = k by omega]
  have e : ov_go f s g p go wt sh x y t = ov_gd f s g p go wt sh (k + 1) x y t := by
    unfold ov_go
    rw [hk]
  rw [e]
  show (_ ∨ (_ ∧ ((_ ∧ ∀ q : Int, _ → _ → _) ∨ (_ ∧ _)))) ↔ _
  constructor
  · rintro (a | ⟨a, (⟨b, c⟩ | ⟨b, c⟩)⟩)
    · exact Or.inl a
    · exact Or.inr ⟨a, Or.inl ⟨b, fun q h0 h1 => (ov_gs_con hG).mp (c q h0 h1)⟩⟩
    · exact Or.inr ⟨a, Or.inr ⟨b, (ov_gs_con hG).mp c⟩⟩
  · rintro (a | ⟨a, (⟨b, c⟩ | ⟨b, c⟩)⟩)
    · exact Or.inl a
    · exact Or.inr ⟨a, Or.inl ⟨b, fun q h0 h1 => (ov_gs_con hG).mpr (c q h0 h1)⟩⟩
    · exact Or.inr ⟨a, Or.inr ⟨b, (ov_gs_con hG).mpr c⟩⟩
/-- what the memo holds under the stamp in use is right, and no stamp is beyond it -/
def ov_MI (f s g p : Int → Int) (go wt sh st : Int) (wo sp : Int → Int) : Prop :=
  (∀ j : Int, sp j ≤ st) ∧ ∀ x y t : Int, 0 ≤ x → 0 ≤ y → x < f 0 → y < f 1 → 0 ≤ t → t < f 9 → sp (1200 * (6 * y + x) + t) = st → (0 ≤ wo (1200 * (6 * y + x) + t) ↔ ov_go f s g p go wt sh x y t)
/-- a new number comes into the memo -/
theorem ov_MI_w {f s g p wo sp : Int → Int} {go wt sh st x y t v : Int} (M : ov_MI f s g p go wt sh st wo sp) (hf : f 0 ≤ 6 ∧ f 9 ≤ 1200) (hx : 0 ≤ x ∧ x < f 0) (hy : 0 ≤ y) (ht : 0 ≤ t ∧ t < f 9) (hv : 0 ≤ v ↔ ov_go f s g p go wt sh x y t) : ov_MI f s g p go wt sh st (ov_rs wo (1200 * (6 * y + x) + t) v) (ov_rs sp (1200 * (6 * y + x) + t) st) := by
  refine ⟨fun j => ?_, ?_⟩
  · by_cases e : j = 1200 * (6 * y + x) + t
    · rw [e, ov_rs_eq]
      exact Int.le_refl _
    · rw [ov_rs_ne e]
      exact M.1 j
  intro a b c h1 h2 h3 h4 h5 h6 h7
  by_cases e : 1200 * (6 * b + a) + c = 1200 * (6 * y + x) + t
  · have e1 : c = t := by omega
    have e2 : 6 * b + a = 6 * y + x := by omega
    have e3 : a = x := by omega
    have e4 : b = y := by omega
    rw [e, ov_rs_eq, e1, e3, e4]
    exact hv
  · rw [ov_rs_ne e] at h7
    rw [ov_rs_ne e]
    exact M.2 a b c h1 h2 h3 h4 h5 h6 h7
/-- a stamp that no cell has yet -/
theorem ov_MI_new {f s g p wo sp : Int → Int} {go wt sh st : Int} (hs : ∀ j : Int, sp j < st) : ov_MI f s g p go wt sh st wo sp := by
  refine ⟨fun j => by have := hs j; omega, ?_⟩
  intro a b c h1 h2 h3 h4 h5 h6 h7
  have := hs (1200 * (6 * b + a) + c)
  omega
/-- the memo between calls -/
def ov_PM (f s g p wo sp : Int → Int) (ver k25 k26 k28 k29 k30 : Int) : Prop := (∀ j : Int, sp j ≤ k25) ∧ k28 ≤ ver ∧ (k28 = ver → 0 ≤ k26 ∧ k26 ≤ 3 + f 8 ∧ ov_MI f s g p k26 k29 k30 k25 wo sp)
theorem ov_PM_ask {f s g p wo sp : Int → Int} {ver k25 k26 k28 k29 k30 k go cn sd : Int} (M : ov_PM f s g p wo sp ver k25 k26 k28 k29 k30) (hq : k = k25 + 1 ∨ (k = k25 ∧ k26 = go ∧ k28 = ver ∧ k29 = cn ∧ k30 = sd)) : ov_MI f s g p go cn sd k wo sp := by
  rcases hq with e | ⟨e1, e2, e3, e4, e5⟩
  · exact ov_MI_new fun j => by have := M.1 j; omega
  · rw [e1, ← e2, ← e4, ← e5]
    exact (M.2.2 e3).2.2
theorem ov_PM_mi {f s g p wo sp : Int → Int} {ver k25 k26 k28 k29 k30 k go cn sd : Int} (M : ov_MI f s g p go cn sd k wo sp) (h5 : k25 = k) (h6 : k26 = go) (h8 : k28 = ver) (h9 : k29 = cn) (h0 : k30 = sd) (hg : 0 ≤ go ∧ go ≤ 3 + f 8) : ov_PM f s g p wo sp ver k25 k26 k28 k29 k30 := by
  rw [h5, h6, h8, h9, h0]
  exact ⟨M.1, Int.le_refl _, fun _ => ⟨hg.1, hg.2, M⟩⟩
/-- unfolding where one is -/
theorem ov_go_home {f s g p : Int → Int} {go wt sh x y t : Int} (hs : x + y ≤ 13) (hq : x = f 0 - 1 ∧ y = f 1 - 1) : ov_go f s g p go wt sh x y t := (ov_go_eq hs).mpr (Or.inl hq)
theorem ov_go_h {f s g p : Int → Int} {go wt sh x y t : Int} (hs : x + y ≤ 13) (hq : ¬ (x = f 0 - 1 ∧ y = f 1 - 1)) (hu : f (10 + 4 * (6 * y + x)) = 2 ∧ ¬ s (4 + 6 * y + x) = 1 ∧ ¬ 6 * y + x = wt) : (∀ q : Int, 0 ≤ q → q < f (10 + 4 * (6 * y + x) + 1) → ov_gs f g p (ov_go f s g p go wt sh) go x y t q) ↔ ov_go f s g p go wt sh x y t := by
  rw [ov_go_eq hs]
  constructor
  · intro a
    exact Or.inr ⟨hq, Or.inl ⟨hu, a⟩⟩
  · rintro (a | ⟨_, (⟨_, c⟩ | ⟨b, _⟩)⟩)
    · exact absurd a hq
    · exact c
    · exact absurd hu b
theorem ov_go_s {f s g p : Int → Int} {go wt sh x y t sn : Int} (hs : x + y ≤ 13) (hq : ¬ (x = f 0 - 1 ∧ y = f 1 - 1)) (hu : ¬ (f (10 + 4 * (6 * y + x)) = 2 ∧ ¬ s (4 + 6 * y + x) = 1 ∧ ¬ 6 * y + x = wt)) (hn : (6 * y + x = wt ∧ sn = t + sh) ∨ (¬ 6 * y + x = wt ∧ sn = t)) : ov_gs f g p (ov_go f s g p go wt sh) go x y t sn ↔ ov_go f s g p go wt sh x y t := by
  have e : (if 6 * y + x = wt then t + sh else t) = sn := by
    rcases hn with ⟨a, b⟩ | ⟨a, b⟩
    · rw [if_pos a, b]
    · rw [if_neg a, b]
  rw [ov_go_eq (x := x) (y := y) hs, e]
  constructor
  · intro a
    exact Or.inr ⟨hq, Or.inr ⟨hu, a⟩⟩
  · rintro (a | ⟨_, (⟨b, _⟩ | ⟨_, c⟩)⟩)
    · exact absurd a hq
    · exact absurd b hu
    · exact c
/-- what wayOf answers -/
def ov_wf (f g p : Int → Int) (G : Int → Int → Int → Prop) (go x y t sn r : Int) : Prop :=
  (0 ≤ r → ov_cgi f x y r = 1) ∧ (go = 3 → (0 ≤ r ↔ ov_gs f g p G go x y t sn) ∧ (0 ≤ r → G (x + 1 - r) (y + r) (ov_nx f t (ov_wm f (6 * y + x) r sn)))) ∧ (¬ go = 3 → r = ov_wy f g p go x y sn)
theorem ov_wf_no {f g p : Int → Int} {G : Int → Int → Int → Prop} {go x y t sn r : Int} (w : ov_wf f g p G go x y t sn r) (hr : r < 0) : ¬ ov_gs f g p G go x y t sn := by
  intro a
  by_cases c : go = 3
  · have := (w.2.1 c).1.mpr a
    omega
  · rcases a with ⟨q, _⟩ | ⟨_, q, _⟩
    · exact c q
    · rw [← w.2.2 c] at q
      omega
theorem ov_wf_gs {f g p : Int → Int} {G : Int → Int → Int → Prop} {go x y t sn r : Int} (w : ov_wf f g p G go x y t sn r) (hr : 0 ≤ r) : G (x + 1 - r) (y + r) (ov_nx f t (ov_wm f (6 * y + x) r sn)) ↔ ov_gs f g p G go x y t sn := by
  by_cases c : go = 3
  · exact iff_of_true ((w.2.1 c).2 hr) ((w.2.1 c).1.mp hr)
  · have e := w.2.2 c
    constructor
    · intro a
      refine Or.inr ⟨c, ?_⟩
      rw [← e]
      exact ⟨hr, a⟩
    · rintro (⟨q, _⟩ | ⟨_, _, q⟩)
      · exact absurd q c
      · rw [← e] at q
        exact q
theorem ov_wf_3 {f g p : Int → Int} {G : Int → Int → Int → Prop} {go x y t sn r a b : Int} (hgo : go = 3)
    (ha : 0 ≤ a ↔ (ov_cgi f x y 0 = 1 ∧ G (x + 1 - 0) (y + 0) (ov_nx f t (ov_wm f (6 * y + x) 0 sn))))
    (hb : 0 ≤ b ↔ (ov_cgi f x y 1 = 1 ∧ G (x + 1 - 1) (y + 1) (ov_nx f t (ov_wm f (6 * y + x) 1 sn))))
    (hr : (r = 0 ∧ 0 ≤ a) ∨ (r = 1 ∧ 0 ≤ b) ∨ (r = -1 ∧ a < 0 ∧ b < 0)) : ov_wf f g p G go x y t sn r := by
  have hg : ov_gs f g p G go x y t sn ↔ (0 ≤ a ∨ 0 ≤ b) := by
    rw [ha, hb]
    constructor
    · rintro (⟨_, q⟩ | ⟨q, _⟩)
      · exact q
      · exact absurd hgo q
    · intro q
      exact Or.inl ⟨hgo, q⟩
  rcases hr with ⟨rfl, q⟩ | ⟨rfl, q⟩ | ⟨rfl, q1, q2⟩
  · exact ⟨fun _ => (ha.mp q).1, fun _ => ⟨iff_of_true (by decide) (hg.mpr (Or.inl q)), fun _ => (ha.mp q).2⟩, fun c => absurd hgo c⟩
  · exact ⟨fun _ => (hb.mp q).1, fun _ => ⟨iff_of_true (by decide) (hg.mpr (Or.inr q)), fun _ => (hb.mp q).2⟩, fun c => absurd hgo c⟩
  · exact ⟨fun c => absurd c (by decide), fun _ => ⟨iff_of_false (by decide) (fun c => by rcases hg.mp c with c | c <;> omega), fun c => absurd c (by decide)⟩, fun c => absurd hgo c⟩
theorem ov_wy_cg {f g p : Int → Int} {go x y sn : Int} (h0 : 0 ≤ go) (hr : 0 ≤ ov_wy f g p go x y sn) : ov_cgi f x y (ov_wy f g p go x y sn) = 1 := by
  unfold ov_wy at hr ⊢
  by_cases c0 : ov_cgi f x y 0 = 1
  · by_cases c1 : ov_cgi f x y 1 = 1
    · have k : ∀ w : Int, (w = 0 ∨ w = 1) → ov_cgi f x y w = 1 := by
        rintro w (rfl | rfl)
        · exact c0
        · exact c1
      rw [if_pos c0, if_pos c1]
      apply k
      by_cases a : go < 2
      · rw [if_pos a]
        omega
      · rw [if_neg a]
        repeat' split
        all_goals simp
    · rw [if_pos c0, if_neg c1]
      exact c0
  · rw [if_neg c0] at hr ⊢
    by_cases c1 : ov_cgi f x y 1 = 1
    · rw [if_pos c1]
      exact c1
    · rw [if_neg c1] at hr
      omega
theorem ov_wf_o {f g p : Int → Int} {G : Int → Int → Int → Prop} {go x y t sn r : Int} (hgo : ¬ go = 3) (h0 : 0 ≤ go) (hr : ov_wy f g p go x y sn = r) : ov_wf f g p G go x y t sn r := by
  subst hr
  exact ⟨fun q => ov_wy_cg h0 q, fun q => absurd q hgo, fun _ => rfl⟩
theorem ov_fa4 {h : ov_H} {a b c d : Int} {j : Int} (h1 : 0 ≤ j) (h2 : j ≤ 3) : ov_up (ov_up (ov_up (ov_up h 101 0 a) 101 1 b) 101 2 c) 101 3 d 101 j = ov_fa a b c d j := by
  have e : j = 0 ∨ j = 1 ∨ j = 2 ∨ j = 3 := by omega
  rcases e with rfl | rfl | rfl | rfl <;> rfl
theorem ov_hsa {B q v sm : Int} (h1 : sm ≤ B * q) (h2 : v ≤ B) : sm + v ≤ B * (q + 1) := by
  rw [Int.mul_add]
  omega
theorem ov_hsd {B n sm : Int} (hn : 0 < n) (h0 : 0 ≤ sm) (h1 : sm ≤ B * n) : 0 ≤ Int.tdiv sm n ∧ Int.tdiv sm n ≤ B := by
  rw [Int.tdiv_eq_ediv_of_nonneg h0]
  refine ⟨Int.ediv_nonneg h0 (by omega), ?_⟩
  have h2 : sm / n < B + 1 := Int.ediv_lt_of_lt_mul hn (by rw [Int.add_mul]; omega)
  omega
theorem ov_memo {f s g p wo sp : Int → Int} {go wt sh st x y t : Int} (M : ov_MI f s g p go wt sh st wo sp) (hx : 0 ≤ x ∧ x < f 0) (hy : 0 ≤ y ∧ y < f 1) (ht : 0 ≤ t ∧ t < f 9) (e : sp (1200 * (6 * y + x) + t) = st) : 0 ≤ wo (1200 * (6 * y + x) + t) ↔ ov_go f s g p go wt sh x y t := M.2 x y t hx.1 hy.1 hx.2 hy.2 ht.1 ht.2 e
theorem ov_tds {a b : Int} (hb : 0 < b) : -(a.natAbs : Int) ≤ Int.tdiv a b ∧ Int.tdiv a b ≤ (a.natAbs : Int) := by
  have h1 : (Int.tdiv a b).natAbs ≤ a.natAbs := by
    rw [Int.natAbs_tdiv]
    exact Nat.div_le_self _ _
  omega

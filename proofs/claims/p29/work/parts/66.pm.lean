/-! what the memo knows stays where the town in use, its codes and the lights known stay -/
theorem ov_WT_con {f f' : Int → Int} (hf : ∀ j : Int, j < 340 → f' j = f j) (W : ov_WT f) : ov_WT f' := by
  intro c h0 h1
  rw [hf (10 + 4 * c) (by omega), hf (10 + 4 * c + 1) (by omega), hf 9 (by decide)]
  exact W c h0 h1
theorem ov_CD_con {f g p f' g' p' : Int → Int} (hf : ∀ j : Int, j < 340 → f' j = f j) (hg : ∀ j : Int, j < 1100 → g' j = g j) (hp : ∀ j : Int, j < 1100 → p' j = p j) (h8 : f 8 ≤ 4) (C : ov_CD f g p) : ov_CD f' g' p' := by
  intro r h0 h1
  rw [hf 8 (by decide)] at h1
  rw [hf (280 + r) (by omega)]
  obtain ⟨n, t', q1, q2, q3, q4, q5⟩ := C r h0 h1
  exact ⟨n, t', q1, q2, q3, ov_st_con n _ _ _ (fun j a b => ⟨hg j (by omega), hp j (by omega)⟩) q4, by rw [hg _ q1]; exact q5⟩
theorem ov_ev_con {g p g' p' fa : Int → Int} (hg : ∀ j : Int, j < 1100 → g' j = g j) (hp : ∀ j : Int, j < 1100 → p' j = p j) : ∀ (n : Nat) (i t t' : Int) (m : Nat) (q : Int → Int), ov_st g p m i t t' → g (i + m) = 0 → i + m < 1100 → m < n → ov_ev g' p' fa n i t q = ov_ev g p fa n i t q
  | 0, _, _, _, _, _, _, _, _, hm => absurd hm (Nat.not_lt_zero _)
  | n + 1, i, t, t', 0, q, hs, h0, hi, hm => by
    have h1 : g i = 0 := by simpa using h0
    have h2 : g' i = 0 := by rw [hg i (by omega)]; exact h1
    rw [ov_ev_0 h1, ov_ev_0 h2]
  | n + 1, i, t, t', m + 1, q, ⟨t1, hs1, hs2⟩, h0, hi, hm => by
    have e1 := hg i (by omega)
    have e2 := hp i (by omega)
    have h2 : g (i + 1 + (m : Int)) = 0 := by
      rw [show i + 1 + (m : Int) = i + ((m + 1 : Nat) : Int) by omega]
      exact h0
    have ih := fun (r : Int → Int) => ov_ev_con (fa := fa) hg hp n (i + 1) t1 t' m r hs2 h2 (by omega) (by omega)
    rcases hs1 with ⟨c1, e⟩ | ⟨c1, c2, c3, e⟩ | ⟨c1, c2, e⟩ | ⟨c1, c2, e⟩
    · rw [ov_ev_1 c1, ov_ev_1 (show g' i = 1 by omega), e2, ← e]
      exact ih _
    · rw [ov_ev_2 c1, ov_ev_2 (show g' i = 2 by omega), e2, ← e]
      exact ih _
    · rw [ov_ev_3 c1, ov_ev_3 (show g' i = 3 by omega)]
      have ih2 := ih (ov_rs q (t - 1) (if q (t - 1) = 0 then 1 else 0))
      rw [e] at ih2
      exact ih2
    · rw [ov_ev_4 c1, ov_ev_4 (show 4 ≤ g' i by omega), e1, ← e]
      exact ih _
theorem ov_rw_con {g p g' p' fa : Int → Int} {i : Int} (hg : ∀ j : Int, j < 1100 → g' j = g j) (hp : ∀ j : Int, j < 1100 → p' j = p j) (R : ov_rn g p i 0) : ov_rw g' p' fa i = ov_rw g p fa i := by
  obtain ⟨n, t', h1, h2, h3, h4, h5⟩ := R
  exact ov_ev_con hg hp 1101 i 0 t' n _ h4 h5 h1 (by omega)
theorem ov_wm_con {f f' : Int → Int} (hf : ∀ j : Int, j < 340 → f' j = f j) {c : Int} (hc : 0 ≤ c ∧ c ≤ 53) (way s : Int) : ov_wm f' c way s = ov_wm f c way s := by
  unfold ov_wm
  rw [hf (10 + 4 * c) (by omega), hf (10 + 4 * c + 1) (by omega), hf (10 + 4 * c + 2) (by omega), hf (10 + 4 * c + 3) (by omega)]
theorem ov_cgi_con {f f' : Int → Int} (hf : ∀ j : Int, j < 340 → f' j = f j) {x y : Int} (hx : 0 ≤ x ∧ x ≤ 5) (hy : 0 ≤ y ∧ y ≤ 8) (way : Int) : ov_cgi f' x y way = ov_cgi f x y way := by
  unfold ov_cgi
  rw [hf 0 (by decide), hf 1 (by decide), hf (226 + 6 * y + x) (by omega), hf (10 + 4 * (6 * y + x)) (by omega), hf (10 + 4 * (6 * y + x) + 3) (by omega), hf (10 + 4 * (6 * y + x) + 1) (by omega)]
theorem ov_nx_con {f f' : Int → Int} (hf : ∀ j : Int, j < 340 → f' j = f j) (t w : Int) : ov_nx f' t w = ov_nx f t w := by
  unfold ov_nx
  rw [hf 2 (by decide), hf 9 (by decide)]
theorem ov_wy_con {f g p f' g' p' : Int → Int} (hf : ∀ j : Int, j < 340 → f' j = f j) (hg : ∀ j : Int, j < 1100 → g' j = g j) (hp : ∀ j : Int, j < 1100 → p' j = p j) (C : ov_CD f g p) {go x y : Int} (hx : 0 ≤ x ∧ x ≤ 5) (hy : 0 ≤ y ∧ y ≤ 8) (hgo : 0 ≤ go ∧ go ≤ 3 + f 8) (h8 : f 8 ≤ 4) (h3 : ¬ go = 3) (sn : Int) : ov_wy f' g' p' go x y sn = ov_wy f g p go x y sn := by
  unfold ov_wy
  rw [ov_cgi_con hf hx hy 0, ov_cgi_con hf hx hy 1, ov_wm_con hf (c := 6 * y + x) (by omega) 0, ov_wm_con hf (c := 6 * y + x) (by omega) 1, hf 0 (by decide), hf 1 (by decide), hf (280 + go - 4) (by omega)]
  by_cases h2 : go ≤ 2
  · by_cases a : go < 2
    · simp only [if_pos a]
    · have b : go = 2 := by omega
      simp only [if_neg a, if_pos b]
  · have R : ov_rn g p (f (280 + go - 4)) 0 := by
      have := C (go - 4) (by omega) (by omega)
      rw [show 280 + (go - 4) = 280 + go - 4 by omega] at this
      exact this
    rw [ov_rw_con hg hp R]
theorem ov_wy_cg0 {f g p : Int → Int} {go x y sn : Int} (hr : 0 ≤ ov_wy f g p go x y sn) : (ov_wy f g p go x y sn = 0 ∨ ov_wy f g p go x y sn = 1) ∧ ov_cgi f x y (ov_wy f g p go x y sn) = 1 := by
  unfold ov_wy at hr ⊢
  by_cases c0 : ov_cgi f x y 0 = 1
  · by_cases c1 : ov_cgi f x y 1 = 1
    · have k : ∀ w : Int, (w = 0 ∨ w = 1) → (w = 0 ∨ w = 1) ∧ ov_cgi f x y w = 1 := by
        rintro w (rfl | rfl)
        · exact ⟨Or.inl rfl, c0⟩
        · exact ⟨Or.inr rfl, c1⟩
      rw [if_pos c0, if_pos c1] at hr ⊢
      apply k
      by_cases a : go < 2
      · rw [if_pos a] at hr ⊢
        omega
      · rw [if_neg a]
        repeat' split
        all_goals simp
    · rw [if_pos c0, if_neg c1]
      exact ⟨Or.inl rfl, c0⟩
  · rw [if_neg c0] at hr ⊢
    by_cases c1 : ov_cgi f x y 1 = 1
    · rw [if_pos c1]
      exact ⟨Or.inr rfl, c1⟩
    · rw [if_neg c1] at hr
      omega
theorem ov_gs_con2 {f g p f' g' p' : Int → Int} {G G' : Int → Int → Int → Prop} (hf : ∀ j : Int, j < 340 → f' j = f j) (hg : ∀ j : Int, j < 1100 → g' j = g j) (hp : ∀ j : Int, j < 1100 → p' j = p j) (C : ov_CD f g p) {go x y t : Int} (hx : 0 ≤ x ∧ x ≤ 5) (hy : 0 ≤ y ∧ y ≤ 8) (hgo : 0 ≤ go ∧ go ≤ 3 + f 8) (h8 : f 8 ≤ 4)
    (hG : ∀ w u : Int, (w = 0 ∨ w = 1) → ov_cgi f x y w = 1 → (G' (x + 1 - w) (y + w) u ↔ G (x + 1 - w) (y + w) u)) (sn : Int) : ov_gs f' g' p' G' go x y t sn ↔ ov_gs f g p G go x y t sn := by
  unfold ov_gs
  simp only [ov_cgi_con hf hx hy, ov_nx_con hf, ov_wm_con hf (show 0 ≤ 6 * y + x ∧ 6 * y + x ≤ 53 by omega)]
  by_cases h3 : go = 3
  · constructor
    · rintro (⟨_, (⟨a, b⟩ | ⟨a, b⟩)⟩ | ⟨q, _⟩)
      · exact Or.inl ⟨h3, Or.inl ⟨a, (hG 0 _ (Or.inl rfl) a).mp b⟩⟩
      · exact Or.inl ⟨h3, Or.inr ⟨a, (hG 1 _ (Or.inr rfl) a).mp b⟩⟩
      · exact absurd h3 q
    · rintro (⟨_, (⟨a, b⟩ | ⟨a, b⟩)⟩ | ⟨q, _⟩)
      · exact Or.inl ⟨h3, Or.inl ⟨a, (hG 0 _ (Or.inl rfl) a).mpr b⟩⟩
      · exact Or.inl ⟨h3, Or.inr ⟨a, (hG 1 _ (Or.inr rfl) a).mpr b⟩⟩
      · exact absurd h3 q
  · rw [ov_wy_con hf hg hp C hx hy hgo h8 h3 sn]
    constructor
    · rintro (⟨q, _⟩ | ⟨_, a, b⟩)
      · exact absurd q h3
      · exact Or.inr ⟨h3, a, (hG _ _ (ov_wy_cg0 a).1 (ov_wy_cg0 a).2).mp b⟩
    · rintro (⟨q, _⟩ | ⟨_, a, b⟩)
      · exact absurd q h3
      · exact Or.inr ⟨h3, a, (hG _ _ (ov_wy_cg0 a).1 (ov_wy_cg0 a).2).mpr b⟩
theorem ov_gd_con {f s g p f' s' g' p' : Int → Int} (hf : ∀ j : Int, j < 340 → f' j = f j) (hs : ∀ j : Int, 4 ≤ j → j ≤ 57 → s' j = s j) (hg : ∀ j : Int, j < 1100 → g' j = g j) (hp : ∀ j : Int, j < 1100 → p' j = p j) (C : ov_CD f g p) {go wt sh : Int} (hgo : 0 ≤ go ∧ go ≤ 3 + f 8) (h8 : f 8 ≤ 4) (f0 : f 0 ≤ 6) (f1 : f 1 ≤ 9) : ∀ (k : Nat) (x y t : Int), 0 ≤ x → x < f 0 → 0 ≤ y → y < f 1 → (ov_gd f' s' g' p' go wt sh k x y t ↔ ov_gd f s g p go wt sh k x y t)
  | 0, _, _, _, _, _, _, _ => Iff.rfl
  | k + 1, x, y, t, hx0, hx1, hy0, hy1 => by
    have gs := fun sn : Int => ov_gs_con2 (G := ov_gd f s g p go wt sh k) (G' := ov_gd f' s' g' p' go wt sh k) (t := t) hf hg hp C (show 0 ≤ x ∧ x ≤ 5 by omega) (show 0 ≤ y ∧ y ≤ 8 by omega) hgo h8 (fun w u hw hc => by
      have sp := ((ov_cgi_sp f x y w).2 hc).1
      exact ov_gd_con hf hs hg hp C hgo h8 f0 f1 k (x + 1 - w) (y + w) u (by omega) (by omega) (by omega) (by omega)) sn
    simp only [ov_gd, hf 0 (by decide), hf 1 (by decide), hf (10 + 4 * (6 * y + x)) (by omega), hf (10 + 4 * (6 * y + x) + 1) (by omega), hs (4 + 6 * y + x) (by omega) (by omega), gs]
theorem ov_PM_con {f s g p f' s' g' p' wo sp : Int → Int} {ver k25 k26 k28 k29 k30 : Int} (M : ov_PM f s g p wo sp ver k25 k26 k28 k29 k30) (hf : ∀ j : Int, j < 340 → f' j = f j) (hs : ∀ j : Int, 4 ≤ j → j ≤ 57 → s' j = s j) (hg : ∀ j : Int, j < 1100 → g' j = g j) (hp : ∀ j : Int, j < 1100 → p' j = p j) (C : ov_CD f g p) (h8 : f 8 ≤ 4) (f0 : f 0 ≤ 6) (f1 : f 1 ≤ 9) : ov_PM f' s' g' p' wo sp ver k25 k26 k28 k29 k30 := by
  refine ⟨M.1, M.2.1, fun e => ?_⟩
  obtain ⟨a, b, m⟩ := M.2.2 e
  refine ⟨a, by rw [hf 8 (by decide)]; exact b, m.1, fun x y t h1 h2 h3 h4 h5 h6 h7 => ?_⟩
  rw [hf 0 (by decide)] at h3
  rw [hf 1 (by decide)] at h4
  rw [hf 9 (by decide)] at h6
  exact (m.2 x y t h1 h2 h3 h4 h5 h6 h7).trans (ov_gd_con hf hs hg hp C ⟨a, b⟩ h8 f0 f1 _ x y t h1 h3 h2 h4).symm
/-- a new version: what the memo holds is of no use -/
theorem ov_PM_ver {f s g p f' s' g' p' wo sp : Int → Int} {ver ver' k25 k26 k28 k29 k30 : Int} (M : ov_PM f s g p wo sp ver k25 k26 k28 k29 k30) (hv : ver < ver') : ov_PM f' s' g' p' wo sp ver' k25 k26 k28 k29 k30 :=
  ⟨M.1, by have := M.2.1; omega, fun e => by have := M.2.1; omega⟩
/-! nights: the wait knows a second by its place in the round -/
theorem ov_wm_ph {f : Int → Int} {c a b : Int} (h : f (10 + 4 * c) = 1 ∨ f (10 + 4 * c) = 2 → a % f (10 + 4 * c + 1) = b % f (10 + 4 * c + 1)) (way : Int) : ov_wm f c way a = ov_wm f c way b := by
  unfold ov_wm
  by_cases q : f (10 + 4 * c) = 1 ∨ f (10 + 4 * c) = 2
  · have e : ov_ph a (f (10 + 4 * c + 2)) (f (10 + 4 * c + 1)) = ov_ph b (f (10 + 4 * c + 2)) (f (10 + 4 * c + 1)) := by
      unfold ov_ph
      rw [Int.sub_emod, h q, ← Int.sub_emod]
    rw [e]
  · rw [if_neg q, if_neg q]
theorem ov_gs_ph {f g p : Int → Int} {G : Int → Int → Int → Prop} {go x y t a b : Int} (h : f (10 + 4 * (6 * y + x)) = 1 ∨ f (10 + 4 * (6 * y + x)) = 2 → a % f (10 + 4 * (6 * y + x) + 1) = b % f (10 + 4 * (6 * y + x) + 1)) : ov_gs f g p G go x y t a ↔ ov_gs f g p G go x y t b := by
  have e := ov_wm_ph h
  have ey : ov_wy f g p go x y a = ov_wy f g p go x y b := by
    unfold ov_wy
    rw [e 0, e 1]
  unfold ov_gs
  rw [ey, e 0, e 1, e (ov_wy f g p go x y b)]
theorem ov_ngs {f s g p : Int → Int} {go wt sh x y t sd T : Int} (W : ov_WT f) (hc : 0 ≤ 6 * y + x ∧ 6 * y + x ≤ 53) (hs : x + y ≤ 13) (hq : ¬ (x = f 0 - 1 ∧ y = f 1 - 1)) (hw : wt = -1) (hT : T = t % f 9) (hz : ¬ (f (10 + 4 * (6 * y + x)) = 2 ∧ ¬ s (4 + (6 * y + x)) = 1) → sd = 0) (hG : ov_go f s g p go wt sh x y T) : ov_gs f g p (ov_go f s g p go wt sh) go x y T (t + sd) := by
  have e4 : 4 + (6 * y + x) = 4 + 6 * y + x := by omega
  rw [e4] at hz
  by_cases hu : f (10 + 4 * (6 * y + x)) = 2 ∧ ¬ s (4 + 6 * y + x) = 1
  · have rd := ov_WT_at W hc (by omega)
    have a := (ov_go_h hs hq ⟨hu.1, hu.2, by omega⟩).mpr hG ((t + sd) % f (10 + 4 * (6 * y + x) + 1)) (Int.emod_nonneg _ (by omega)) (Int.emod_lt_of_pos _ (by omega))
    exact (ov_gs_ph (fun _ => Int.emod_emod _ _)).mp a
  · have z := hz hu
    have a := (ov_go_s (sn := T) hs hq (fun q => hu ⟨q.1, q.2.1⟩) (Or.inr ⟨by omega, rfl⟩)).mpr hG
    refine (ov_gs_ph (fun ht => ?_)).mp a
    have dv := ov_WT_dv W hc (by omega) (by omega)
    rw [z, Int.add_zero, hT]
    exact Int.emod_emod_of_dvd t (Int.dvd_of_emod_eq_zero dv)
theorem ov_nxb {f : Int → Int} {t w T : Int} (hT : T = t % f 9) : (t + (w + f 2)) % f 9 = ov_nx f T w := by
  unfold ov_nx
  rw [hT, Int.add_assoc (t % f 9), Int.emod_add_emod]

/-! the lines of a walk: the fault of each, what they come to -/
def wk_go (w l : Int) (br : Int → Int) (x y way : Int) : Int := if (way = 0 ∧ w - 1 ≤ x) ∨ (¬ way = 0 ∧ l - 1 ≤ y) then 0 else if ov_and (ov_shr (br (6 * y + x)) way) 1 = 0 then 1 else 0
theorem wk_go_i {w l x y way : Int} {br : Int → Int} : wk_go w l br x y way = 0 ↔ ((way = 0 ∧ w - 1 ≤ x) ∨ (¬ way = 0 ∧ l - 1 ≤ y) ∨ ¬ ov_and (ov_shr (br (6 * y + x)) way) 1 = 0) := by
  unfold wk_go
  by_cases a : (way = 0 ∧ w - 1 ≤ x) ∨ (¬ way = 0 ∧ l - 1 ≤ y)
  · rw [if_pos a]
    omega
  · rw [if_neg a]
    by_cases b : ov_and (ov_shr (br (6 * y + x)) way) 1 = 0
    · rw [if_pos b]
      omega
    · rw [if_neg b]
      omega
/-- the fault of a line from p on, its ; aside: c lines told, one has come to x, y -/
def wk_F (t : Int → Int) (m w l : Int) (br : Int → Int) (c x y p : Int) : Int := if pt_wt t m p < 0 then 1 + 16 * p else if wk_go w l br x y (pt_wt t m p) = 0 then 2 + 16 * p else if 13 ≤ c then 5 + 16 * p else pt_fN t m 0 9999 (pt_nt t m p)
/-- the lines with it, as the reference lays them -/
def wk_W (t : Int → Int) (m : Int) (W : Int → Int) (c p : Int) : Int → Int := ov_rs (ov_rs W (1 + 2 * c) (pt_wt t m p)) (2 + 2 * c) (pt_nm t m (pt_nt t m p))
def wk_EGk (t : Int → Int) (m w l : Int) (br : Int → Int) : Nat → (Int → Int) → Int → Int → Int → Int → Int → (Int → Int) → Prop
  | 0, _, _, _, _, _, _, _ => False
  | k + 1, W, c, x, y, p, f, V => (pt_ty t m p = 0 ∧ f = 0 ∧ V = ov_rs W 0 c) ∨ (pt_ty t m p ≠ 0 ∧ ((wk_F t m w l br c x y p ≠ 0 ∧ f = wk_F t m w l br c x y p) ∨ (wk_F t m w l br c x y p = 0 ∧ pt_is t m (pt_nt t m (pt_nt t m p)) 59 ≠ 1 ∧ 0 ≤ pt_nt t m (pt_nt t m p) ∧ f = 1 + 16 * pt_nt t m (pt_nt t m p)) ∨ (wk_F t m w l br c x y p = 0 ∧ pt_is t m (pt_nt t m (pt_nt t m p)) 59 = 1 ∧ wk_EGk t m w l br k (wk_W t m W c p) (c + 1) (x + (1 - pt_wt t m p)) (y + pt_wt t m p) (pt_nt t m (pt_nt t m (pt_nt t m p))) f V)))
def wk_EG (t : Int → Int) (m w l : Int) (br W : Int → Int) (c x y p f : Int) (V : Int → Int) : Prop := ∃ k : Nat, wk_EGk t m w l br k W c x y p f V
/-- the fault of a tape as a walk; without one the walk V -/
def wk_ET (t : Int → Int) (m w l : Int) (br : Int → Int) (f : Int) (V : Int → Int) : Prop := wk_EG t m w l br (fun _ => 0) 0 0 0 (pt_rn pt_bB t m 0) f V
section
variable {t : Int → Int} {m w l : Int} {br br2 W V V' : Int → Int} {c x y p f f' : Int}
theorem wk_EGk_u : ∀ (k k2 : Nat) {W : Int → Int} {c x y p f f' : Int} {V V' : Int → Int}, wk_EGk t m w l br k W c x y p f V → wk_EGk t m w l br k2 W c x y p f' V' → f = f' ∧ (f = 0 → V = V')
  | 0, _, _, _, _, _, _, _, _, _, _, a, _ => absurd a (fun w => w)
  | _ + 1, 0, _, _, _, _, _, _, _, _, _, _, b => absurd b (fun w => w)
  | k + 1, k2 + 1, W, c, x, y, p, f, f', V, V', a, b => by
    rcases a with ⟨a1, a2, a3⟩ | ⟨a1, a2⟩
    · rcases b with ⟨b1, b2, b3⟩ | ⟨b1, -⟩
      · exact ⟨by omega, fun _ => by rw [a3, b3]⟩
      · exact absurd a1 b1
    · rcases b with ⟨b1, -⟩ | ⟨b1, b2⟩
      · exact absurd b1 a1
      · rcases a2 with ⟨c1, c2⟩ | ⟨c1, c2, c4, c3⟩ | ⟨c1, c2, c3⟩
        · rcases b2 with ⟨e1, e2⟩ | ⟨e1, -⟩ | ⟨e1, -⟩
          · exact ⟨by omega, fun q => by omega⟩
          · exact absurd e1 c1
          · exact absurd e1 c1
        · rcases b2 with ⟨e1, e2⟩ | ⟨e1, e2, e4, e3⟩ | ⟨e1, e2, e3⟩
          · exact absurd c1 e1
          · exact ⟨by omega, fun q => by omega⟩
          · exact absurd e2 c2
        · rcases b2 with ⟨e1, e2⟩ | ⟨e1, e2, e4, e3⟩ | ⟨e1, e2, e3⟩
          · exact absurd c1 e1
          · exact absurd c2 e2
          · exact wk_EGk_u k k2 c3 e3
theorem wk_go_b (x y way : Int) : wk_go w l br x y way = 0 ∨ wk_go w l br x y way = 1 := by
  unfold wk_go
  (repeat' split) <;> omega
theorem wk_F_go (hF : wk_F t m w l br c x y p = 0) (hp : 0 ≤ p) : 0 ≤ pt_wt t m p ∧ wk_go w l br x y (pt_wt t m p) = 1 ∧ c < 13 ∧ pt_fN t m 0 9999 (pt_nt t m p) = 0 := by
  have g := wk_go_b (w := w) (l := l) (br := br) x y (pt_wt t m p)
  unfold wk_F at hF
  (repeat' split at hF) <;> omega
theorem wk_go_in {way : Int} (hx : 0 ≤ x ∧ x ≤ 5) (hy : 0 ≤ y ∧ y ≤ 8) (hw : w ≤ 6) (hl : l ≤ 9) (h0 : 0 ≤ way ∧ way ≤ 1) (g : wk_go w l br x y way = 1) : (0 ≤ x + (1 - way) ∧ x + (1 - way) ≤ 5) ∧ 0 ≤ y + way ∧ y + way ≤ 8 := by
  unfold wk_go at g
  split at g
  · omega
  · omega
theorem wk_go_cg (e : ∀ k : Int, 0 ≤ k → k < 54 → br2 k = br k) (hx : 0 ≤ x ∧ x ≤ 5) (hy : 0 ≤ y ∧ y ≤ 8) (way : Int) : wk_go w l br2 x y way = wk_go w l br x y way := by
  unfold wk_go
  rw [e (6 * y + x) (by omega) (by omega)]
theorem wk_EGk_cg (e : ∀ k : Int, 0 ≤ k → k < 54 → br2 k = br k) (hw : w ≤ 6) (hl : l ≤ 9) : ∀ (k : Nat) {W : Int → Int} {c x y p f : Int} {V : Int → Int}, (0 ≤ x ∧ x ≤ 5) → (0 ≤ y ∧ y ≤ 8) → (0 ≤ p ∧ p ≤ m) → wk_EGk t m w l br k W c x y p f V → wk_EGk t m w l br2 k W c x y p f V
  | 0, _, _, _, _, _, _, _, _, _, _, a => absurd a (fun w => w)
  | k + 1, W, c, x, y, p, f, V, hx, hy, hp, a => by
    have eF : wk_F t m w l br2 c x y p = wk_F t m w l br c x y p := by
      unfold wk_F
      rw [wk_go_cg e hx hy]
    rcases a with a | ⟨a1, a2⟩
    · exact Or.inl a
    · refine Or.inr ⟨a1, ?_⟩
      rw [eF]
      rcases a2 with a2 | a2 | ⟨c1, c2, c3⟩
      · exact Or.inl a2
      · exact Or.inr (Or.inl a2)
      · have q := wk_F_go c1 hp.1
        have b := pt_wt_b (t := t) (m := m) (p := p)
        have i := wk_go_in hx hy hw hl ⟨q.1, b.2⟩ q.2.1
        have n1 := pt_nt_le (t := t) (n := m) (p := p) hp.2
        have n2 := pt_nt_le (t := t) (n := m) (p := pt_nt t m p) n1.2
        have n3 := pt_nt_le (t := t) (n := m) (p := pt_nt t m (pt_nt t m p)) n2.2
        exact Or.inr (Or.inr ⟨c1, c2, wk_EGk_cg e hw hl k i.1 i.2 ⟨by omega, by omega⟩ c3⟩)
/-- both readings of one tape -/
theorem wk_ET_u (e : ∀ k : Int, 0 ≤ k → k < 54 → br2 k = br k) (hw : w ≤ 6) (hl : l ≤ 9) (hm : 0 ≤ m) (a : wk_ET t m w l br f V) (b : wk_ET t m w l br2 f' V') : f = f' ∧ (f = 0 → V = V') := by
  obtain ⟨k1, h1⟩ := a
  obtain ⟨k2, h2⟩ := b
  have r := pt_rn_b (P := pt_bB) (t := t) (n := m) (p := 0)
  exact wk_EGk_u k1 k2 (wk_EGk_cg e hw hl k1 ⟨by decide, by decide⟩ ⟨by decide, by decide⟩ ⟨by omega, by omega⟩ h1) h2
theorem wk_EG_e (h : pt_ty t m p = 0) : wk_EG t m w l br W c x y p 0 (ov_rs W 0 c) := ⟨1, Or.inl ⟨h, rfl, rfl⟩⟩
theorem wk_EG_f (h : pt_ty t m p ≠ 0) (a : wk_F t m w l br c x y p = f) (hf : f ≠ 0) : wk_EG t m w l br W c x y p f V := ⟨1, Or.inr ⟨h, Or.inl ⟨by omega, a.symm⟩⟩⟩
theorem wk_EG_s (h : pt_ty t m p ≠ 0) (a : wk_F t m w l br c x y p = 0) (s : pt_is t m (pt_nt t m (pt_nt t m p)) 59 ≠ 1) (hq : 0 ≤ pt_nt t m (pt_nt t m p)) : wk_EG t m w l br W c x y p (1 + 16 * pt_nt t m (pt_nt t m p)) V := ⟨1, Or.inr ⟨h, Or.inr (Or.inl ⟨a, s, hq, rfl⟩)⟩⟩
theorem wk_EG_n (h : pt_ty t m p ≠ 0) (a : wk_F t m w l br c x y p = 0) (s : pt_is t m (pt_nt t m (pt_nt t m p)) 59 = 1) (b : wk_EG t m w l br (wk_W t m W c p) (c + 1) (x + (1 - pt_wt t m p)) (y + pt_wt t m p) (pt_nt t m (pt_nt t m (pt_nt t m p))) f V) : wk_EG t m w l br W c x y p f V := by
  obtain ⟨k, hk⟩ := b
  exact ⟨k + 1, Or.inr ⟨h, Or.inr (Or.inr ⟨a, s, hk⟩)⟩⟩
end
/-! the class's lines -/
def wk_x (W : Int → Int) (i : Int) : Int := ov_sx W i.toNat
theorem wk_x_s (W : Int → Int) {i : Int} (h : 0 ≤ i) : wk_x W (i + 1) = wk_x W i + (1 - W (1 + 2 * i)) := ov_sx_s W h
theorem wk_sx_cg {W W2 : Int → Int} : ∀ n : Nat, (∀ i : Int, 0 ≤ i → i < n → W2 (1 + 2 * i) = W (1 + 2 * i)) → ov_sx W2 n = ov_sx W n
  | 0, _ => rfl
  | n + 1, e => by
    show ov_sx W2 n + (1 - W2 (1 + 2 * (n : Int))) = ov_sx W n + (1 - W (1 + 2 * (n : Int)))
    rw [e n (by omega) (by omega), wk_sx_cg n (fun i h0 h1 => e i h0 (by omega))]
theorem wk_x_cg {W W2 : Int → Int} {i : Int} (e : ∀ j : Int, 0 ≤ j → j < i → W2 (1 + 2 * j) = W (1 + 2 * j)) : wk_x W2 i = wk_x W i := wk_sx_cg _ (fun j h0 h1 => e j h0 (by omega))
def wk_C (rc rw rs W : Int → Int) (c : Int) : Prop := ∀ i : Int, 0 ≤ i → i < c → rw i = W (1 + 2 * i) ∧ rs i = W (2 + 2 * i) ∧ rc i = 6 * (i - wk_x W i) + wk_x W i ∧ 0 ≤ W (1 + 2 * i) ∧ W (1 + 2 * i) ≤ 1 ∧ 0 ≤ W (2 + 2 * i) ∧ W (2 + 2 * i) ≤ 9999 ∧ 0 ≤ wk_x W i ∧ wk_x W i ≤ 5 ∧ 0 ≤ i - wk_x W i ∧ i - wk_x W i ≤ 8
/-- so far: c lines, at x, y -/
def wk_CL (r0 rc rw rs W : Int → Int) (c x y : Int) : Prop := r0 0 = c ∧ r0 1 = 6 * y + x ∧ (0 ≤ c ∧ c ≤ 13) ∧ (0 ≤ x ∧ x ≤ 5) ∧ (0 ≤ y ∧ y ≤ 8) ∧ x = wk_x W c ∧ y = c - wk_x W c ∧ wk_C rc rw rs W c
def wk_CW (r0 rc rw rs V : Int → Int) : Prop := r0 0 = V 0 ∧ 0 ≤ V 0 ∧ V 0 ≤ 13 ∧ wk_C rc rw rs V (V 0)
theorem wk_CL_0 {r0 rc rw rs : Int → Int} (e0 : r0 0 = 0) (e1 : r0 1 = 0) : wk_CL r0 rc rw rs (fun _ => 0) 0 0 0 := ⟨e0, e1, ⟨by decide, by decide⟩, ⟨by decide, by decide⟩, ⟨by decide, by decide⟩, rfl, rfl, fun i h0 h1 => absurd h1 (by omega)⟩
theorem wk_CL_b {r0 rc rw rs W : Int → Int} {c x y : Int} (K : wk_CL r0 rc rw rs W c x y) : r0 0 = c ∧ r0 1 = 6 * y + x ∧ (0 ≤ c ∧ c ≤ 13) ∧ (0 ≤ x ∧ x ≤ 5) ∧ (0 ≤ y ∧ y ≤ 8) := ⟨K.1, K.2.1, K.2.2.1, K.2.2.2.1, K.2.2.2.2.1⟩
theorem wk_CL_e {r0 rc rw rs W : Int → Int} {c x y : Int} (K : wk_CL r0 rc rw rs W c x y) : wk_CW r0 rc rw rs (ov_rs W 0 c) := by
  obtain ⟨a, b, d, -, -, -, -, k⟩ := K
  have e : ∀ j : Int, 1 ≤ j → ov_rs W 0 c j = W j := fun j hj => ov_rs_ne (by omega)
  have v : ov_rs W 0 c 0 = c := ov_rs_eq _ _ _
  unfold wk_CW
  rw [v]
  refine ⟨a, d.1, d.2, fun i h0 h1 => ?_⟩
  rw [e _ (by omega), e _ (by omega), wk_x_cg (W := W) (fun j j0 j1 => e _ (by omega))]
  exact k i h0 h1
theorem wk_CL_s {t : Int → Int} {m : Int} {r0 rc rw rs W q0 qc qw qs : Int → Int} {c x y p : Int} (K : wk_CL r0 rc rw rs W c x y) (h : c < 13) (g : 0 ≤ pt_wt t m p ∧ pt_wt t m p ≤ 1) (gn : 0 ≤ pt_nm t m (pt_nt t m p) ∧ pt_nm t m (pt_nt t m p) ≤ 9999) (gi : (0 ≤ x + (1 - pt_wt t m p) ∧ x + (1 - pt_wt t m p) ≤ 5) ∧ 0 ≤ y + pt_wt t m p ∧ y + pt_wt t m p ≤ 8)
    (e0 : q0 0 = c + 1) (e1 : q0 1 = 6 * (y + pt_wt t m p) + (x + (1 - pt_wt t m p))) (ec : qc = ov_rs rc c (6 * y + x)) (ew : qw = ov_rs rw c (pt_wt t m p)) (es : qs = ov_rs rs c (pt_nm t m (pt_nt t m p))) : wk_CL q0 qc qw qs (wk_W t m W c p) (c + 1) (x + (1 - pt_wt t m p)) (y + pt_wt t m p) := by
  obtain ⟨a, b, d, dx, dy, xx, yy, k⟩ := K
  have v1 : wk_W t m W c p (1 + 2 * c) = pt_wt t m p := by
    unfold wk_W
    rw [ov_rs_ne (by omega), ov_rs_eq]
  have v2 : wk_W t m W c p (2 + 2 * c) = pt_nm t m (pt_nt t m p) := by
    unfold wk_W
    rw [ov_rs_eq]
  have ve : ∀ j : Int, j < 1 + 2 * c → wk_W t m W c p j = W j := fun j hj => by
    unfold wk_W
    rw [ov_rs_ne (by omega), ov_rs_ne (by omega)]
  have vx : ∀ i : Int, i ≤ c → wk_x (wk_W t m W c p) i = wk_x W i := fun i hi => wk_x_cg (fun j j0 j1 => ve _ (by omega))
  have vs := wk_x_s (wk_W t m W c p) (i := c) d.1
  have vc := vx c (by omega)
  refine ⟨e0, e1, ⟨by omega, by omega⟩, gi.1, gi.2, by omega, by omega, fun i h0 h1 => ?_⟩
  rw [ec, ew, es]
  by_cases q : i = c
  · rw [q, ov_rs_eq, ov_rs_eq, ov_rs_eq, v1, v2, vc]
    exact ⟨rfl, rfl, by omega, g.1, g.2, gn.1, gn.2, by omega, by omega, by omega, by omega⟩
  · rw [ov_rs_ne q, ov_rs_ne q, ov_rs_ne q, ve _ (by omega), ve _ (by omega), vx i (by omega)]
    exact k i h0 (by omega)
/-! the reference's lines -/
theorem wk_row {t : Int → Int} {m : Int} {R W : Int → Int} {c p a b va vb j : Int} (xw : ∀ j : Int, 0 ≤ j → j < 2 * c → R (30 + j) = W (1 + j)) (ha : a = 30 + 2 * c) (hb : b = 31 + 2 * c) (hva : va = pt_wt t m p) (hvb : vb = pt_nm t m (pt_nt t m p)) (hc : 0 ≤ c) (h0 : 0 ≤ j) (h1 : j < 2 * c + 2) : ov_rs (ov_rs R a va) b vb (30 + j) = wk_W t m W c p (1 + j) := by
  unfold wk_W
  rw [ha, hb, hva, hvb]
  by_cases q : j = 2 * c + 1
  · rw [q, show 30 + (2 * c + 1) = 31 + 2 * c by omega, show 1 + (2 * c + 1) = 2 + 2 * c by omega, ov_rs_eq, ov_rs_eq]
  · by_cases w : j = 2 * c
    · rw [w, ov_rs_ne (by omega), ov_rs_eq, ov_rs_ne (by omega), ov_rs_eq]
    · rw [ov_rs_ne (by omega), ov_rs_ne (by omega), ov_rs_ne (by omega), ov_rs_ne (by omega)]
      exact xw j h0 (by omega)
theorem wk_rw {R W : Int → Int} {c j : Int} (x0 : R 0 = c) (xc : ∀ j : Int, 0 ≤ j → j < 2 * c → R (1 + j) = W (1 + j)) (h0 : 0 ≤ j) (h1 : j < 1 + 2 * ov_rs W 0 c 0) : R j = ov_rs W 0 c j := by
  rw [ov_rs_eq] at h1
  by_cases q : j = 0
  · rw [q, ov_rs_eq]
    exact x0
  · rw [ov_rs_ne q, show j = 1 + (j - 1) by omega]
    exact xc (j - 1) (by omega) (by omega)

abbrev P_fWalk_clear_82 (F : ov_H) (z : ov_Z) (h : ov_H) : Option ov_V → ov_Z → ov_H → Prop := fun r0 z' h' => r0 = none ∧ ov_I F z' h' ∧ (∀ a : Int, a ≠ 82 → h' a = h a) ∧ ((h' 82 0) = 0 ∧ (h' 82 1) = 0)
set_option maxHeartbeats 4000000 in
theorem c_fWalk_clear_82 {u : ov_U} {F : ov_H} {z : ov_Z} {h : ov_H} (d : Nat) (hd : 0 ≤ d) (U : ov_cap u) (I : ov_I F z h) (hw : ov_kw 4835703278458516698824704 F) : ov_T u d ov_m80 [ov_r 82] z h (P_fWalk_clear_82 F z h) := by
  refine ov_en rfl (Nat.le_of_ble_eq_true rfl) ?_
  show ov_R u d ov_m80 0 [(0, ov_r 82)] [] z h (P_fWalk_clear_82 F z h)
  refine ov_blk (ls2 := [(0, ov_r 82)]) (st2 := [ov_i 0, ov_r 82]) (pc2 := 2) b_80_0_2 rfl rfl ?_
  refine ov_putf (x := 0) d_80_2 fl_Walk_21 (zb_82 I) (zs_82 I) rfl nk_0 rfl ?_
  have I1 := up_82_0 (x := 0) I (by omega) (hw 82 (by decide +kernel))
  show ov_R u d ov_m80 5 [(0, ov_r 82)] [] z (ov_up h 82 0 0) (P_fWalk_clear_82 F z h)
  refine ov_blk (ls2 := [(0, ov_r 82)]) (st2 := [ov_i 0, ov_r 82]) (pc2 := 7) b_80_5_2 rfl rfl ?_
  refine ov_putf (x := 0) d_80_7 fl_Walk_25 (zb_82 I1) (zs_82 I1) rfl nk_0 rfl ?_
  have I2 := up_82_1 (x := 0) I1 (by omega) (hw 82 (by decide +kernel))
  show ov_R u d ov_m80 10 [(0, ov_r 82)] [] z (ov_up (ov_up h 82 0 0) 82 1 0) (P_fWalk_clear_82 F z h)
  exact ov_retv (st := []) d_80_10 rfl ⟨rfl, I2, (fun a ca => Eq.trans (by show (ov_up (ov_up h 82 0 0) 82 1 0) a = h a; rw [ov_up_ne (by omega), ov_up_ne (by omega)]) rfl), (by show 0 = 0 ∧ 0 = 0; omega)⟩
abbrev P_fWalk_add_82 (F : ov_H) (z : ov_Z) (h : ov_H) (c : Int) (way : Int) (s : Int) (n : Int) : Option ov_V → ov_Z → ov_H → Prop := fun r0 z' h' => r0 = none ∧ ov_I F z' h' ∧ (∀ a : Int, (a < 82 ∨ 85 < a) → h' a = h a) ∧ ((h' 82 0) = (h 82 0) + 1 ∧ (h' 82 1) = n) ∧ ((h' 83) = ov_rs (h 83) (h 82 0) c) ∧ ((h' 84) = ov_rs (h 84) (h 82 0) way) ∧ ((h' 85) = ov_rs (h 85) (h 82 0) s)
set_option maxHeartbeats 4000000 in
theorem c_fWalk_add_82 {u : ov_U} {F : ov_H} {z : ov_Z} {h : ov_H} (d : Nat) (hd : 0 ≤ d) (U : ov_cap u) (I : ov_I F z h) (hw : ov_kw 72535549176877750482370560 F) (c : Int) (way : Int) (s : Int) (n : Int) (g_c : ov_g c) (g_way : ov_g way) (g_s : ov_g s) (g_n : ov_g n) (p0 : 0 ≤ c ∧ c ≤ 53) (p1 : way = 0 ∨ way = 1) (p2 : 0 ≤ n ∧ n ≤ 53) (p3 : (h 82 0) < 13) : ov_T u d ov_m92 [ov_r 82, ov_i c, ov_i way, ov_i s, ov_i n] z h (P_fWalk_add_82 F z h c way s n) := by
  refine ov_en rfl (Nat.le_of_ble_eq_true rfl) ?_
  show ov_R u d ov_m92 0 [(0, ov_r 82), (1, ov_i c), (2, ov_i way), (3, ov_i s), (4, ov_i n)] [] z h (P_fWalk_add_82 F z h c way s n)
  refine ov_blk (ls2 := [(0, ov_r 82), (1, ov_i c), (2, ov_i way), (3, ov_i s), (4, ov_i n)]) (st2 := [ov_r 82]) (pc2 := 1) b_92_0_1 rfl rfl ?_
  refine ov_getf (v := ov_i (h 82 0)) d_92_1 fl_Walk_21 (zb_82 I) (zs_82 I) rfl ?_
  have g1 := rg_82_0 I
  refine ov_blk (ls2 := [(0, ov_r 82), (1, ov_i c), (2, ov_i way), (3, ov_i s), (4, ov_i n)]) (st2 := [ov_i 13, ov_i (h 82 0)]) (pc2 := 6) b_92_4_1 rfl rfl ?_
  refine ov_icge (tgt := 55) d_92_6 (by decide) (by omega) (by omega) (fun c2 => ?_) (fun c2 => ?_)
  · omega
  · skip
    refine ov_blk (ls2 := [(0, ov_r 82), (1, ov_i c), (2, ov_i way), (3, ov_i s), (4, ov_i n)]) (st2 := [ov_r 82]) (pc2 := 10) b_92_9_1 rfl rfl ?_
    refine ov_getf (v := ov_r 83) d_92_10 fl_Walk_9 (zb_82 I) (zs_82 I) (congrArg ov_r (rg_82_2 I)) ?_
    refine ov_blk (ls2 := [(0, ov_r 82), (1, ov_i c), (2, ov_i way), (3, ov_i s), (4, ov_i n)]) (st2 := [ov_r 82, ov_r 83]) (pc2 := 14) b_92_13_1 rfl rfl ?_
    refine ov_getf (v := ov_i (h 82 0)) d_92_14 fl_Walk_21 (zb_82 I) (zs_82 I) rfl ?_
    refine ov_blk (ls2 := [(0, ov_r 82), (1, ov_i c), (2, ov_i way), (3, ov_i s), (4, ov_i n)]) (st2 := [ov_i c, ov_i (h 82 0), ov_r 83]) (pc2 := 18) b_92_17_1 rfl rfl ?_
    refine ov_iast d_92_18 (zb_83 I) (zs_83 I) (by omega) ?_
    have I4 := ua_83 (k := (h 82 0)) (x := c) I (by omega) (hw 83 (by decide +kernel))
    refine ov_blk (ls2 := [(0, ov_r 82), (1, ov_i c), (2, ov_i way), (3, ov_i s), (4, ov_i n)]) (st2 := [ov_r 82]) (pc2 := 20) b_92_19_1 rfl rfl ?_
    refine ov_getf (v := ov_r 84) d_92_20 fl_Walk_15 (zb_82 I4) (zs_82 I4) (congrArg ov_r (rg_82_3 I4)) ?_
    refine ov_blk (ls2 := [(0, ov_r 82), (1, ov_i c), (2, ov_i way), (3, ov_i s), (4, ov_i n)]) (st2 := [ov_r 82, ov_r 84]) (pc2 := 24) b_92_23_1 rfl rfl ?_
    refine ov_getf (v := ov_i (h 82 0)) d_92_24 fl_Walk_21 (zb_82 I4) (zs_82 I4) rfl ?_
    refine ov_blk (ls2 := [(0, ov_r 82), (1, ov_i c), (2, ov_i way), (3, ov_i s), (4, ov_i n)]) (st2 := [ov_i way, ov_i (h 82 0), ov_r 84]) (pc2 := 28) b_92_27_1 rfl rfl ?_
    refine ov_iast d_92_28 (zb_84 I4) (zs_84 I4) (by omega) ?_
    have I6 := ua_84 (k := (h 82 0)) (x := way) I4 (by omega) (hw 84 (by decide +kernel))
    refine ov_blk (ls2 := [(0, ov_r 82), (1, ov_i c), (2, ov_i way), (3, ov_i s), (4, ov_i n)]) (st2 := [ov_r 82]) (pc2 := 30) b_92_29_1 rfl rfl ?_
    refine ov_getf (v := ov_r 85) d_92_30 fl_Walk_18 (zb_82 I6) (zs_82 I6) (congrArg ov_r (rg_82_4 I6)) ?_
    refine ov_blk (ls2 := [(0, ov_r 82), (1, ov_i c), (2, ov_i way), (3, ov_i s), (4, ov_i n)]) (st2 := [ov_r 82, ov_r 85]) (pc2 := 34) b_92_33_1 rfl rfl ?_
    refine ov_getf (v := ov_i (h 82 0)) d_92_34 fl_Walk_21 (zb_82 I6) (zs_82 I6) rfl ?_
    refine ov_blk (ls2 := [(0, ov_r 82), (1, ov_i c), (2, ov_i way), (3, ov_i s), (4, ov_i n)]) (st2 := [ov_i s, ov_i (h 82 0), ov_r 85]) (pc2 := 38) b_92_37_1 rfl rfl ?_
    refine ov_iast d_92_38 (zb_85 I6) (zs_85 I6) (by omega) ?_
    have I8 := ua_85 (k := (h 82 0)) (x := s) I6 (by omega) (hw 85 (by decide +kernel))
    refine ov_blk (ls2 := [(0, ov_r 82), (1, ov_i c), (2, ov_i way), (3, ov_i s), (4, ov_i n)]) (st2 := [ov_i n, ov_r 82]) (pc2 := 42) b_92_39_2 rfl rfl ?_
    refine ov_putf (x := n) d_92_42 fl_Walk_25 (zb_82 I8) (zs_82 I8) rfl nk_0 rfl ?_
    have I9 := up_82_1 (x := n) I8 (by omega) (hw 82 (by decide +kernel))
    show ov_R u d ov_m92 45 [(0, ov_r 82), (1, ov_i c), (2, ov_i way), (3, ov_i s), (4, ov_i n)] [] z (ov_up (ov_up (ov_up (ov_up h 83 (h 82 0) c) 84 (h 82 0) way) 85 (h 82 0) s) 82 1 n) (P_fWalk_add_82 F z h c way s n)
    refine ov_blk (ls2 := [(0, ov_r 82), (1, ov_i c), (2, ov_i way), (3, ov_i s), (4, ov_i n)]) (st2 := [ov_r 82, ov_r 82]) (pc2 := 47) b_92_45_2 rfl rfl ?_
    refine ov_getf (v := ov_i (h 82 0)) d_92_47 fl_Walk_21 (zb_82 I9) (zs_82 I9) rfl ?_
    refine ov_blk (ls2 := [(0, ov_r 82), (1, ov_i c), (2, ov_i way), (3, ov_i s), (4, ov_i n)]) (st2 := [ov_i ((h 82 0) + 1), ov_r 82]) (pc2 := 52) b_92_50_2 rfl rfl ?_
    refine ov_putf (x := ((h 82 0) + 1)) d_92_52 fl_Walk_21 (zb_82 I9) (zs_82 I9) rfl nk_0 rfl ?_
    have I11 := up_82_0 (x := ((h 82 0) + 1)) I9 (by omega) (hw 82 (by decide +kernel))
    show ov_R u d ov_m92 55 [(0, ov_r 82), (1, ov_i c), (2, ov_i way), (3, ov_i s), (4, ov_i n)] [] z (ov_up (ov_up (ov_up (ov_up (ov_up h 83 (h 82 0) c) 84 (h 82 0) way) 85 (h 82 0) s) 82 1 n) 82 0 ((h 82 0) + 1)) (P_fWalk_add_82 F z h c way s n)
    exact ov_retv (st := []) d_92_55 rfl ⟨rfl, I11, (fun a ca => Eq.trans (by show (ov_up (ov_up (ov_up (ov_up (ov_up h 83 (h 82 0) c) 84 (h 82 0) way) 85 (h 82 0) s) 82 1 n) 82 0 ((h 82 0) + 1)) a = h a; rw [ov_up_ne (by omega), ov_up_ne (by omega), ov_up_ne (by omega), ov_up_ne (by omega), ov_up_ne (by omega)]) rfl), (by show ((h 82 0) + 1) = (h 82 0) + 1 ∧ n = n; omega), (Eq.trans (show (ov_up (ov_up (ov_up (ov_up (ov_up h 83 (h 82 0) c) 84 (h 82 0) way) 85 (h 82 0) s) 82 1 n) 82 0 ((h 82 0) + 1)) 83 = (ov_up (ov_up (ov_up (ov_up h 83 (h 82 0) c) 84 (h 82 0) way) 85 (h 82 0) s) 82 1 n) 83 from rfl) (Eq.trans (show (ov_up (ov_up (ov_up (ov_up h 83 (h 82 0) c) 84 (h 82 0) way) 85 (h 82 0) s) 82 1 n) 83 = (ov_up (ov_up (ov_up h 83 (h 82 0) c) 84 (h 82 0) way) 85 (h 82 0) s) 83 from rfl) (Eq.trans (show (ov_up (ov_up (ov_up h 83 (h 82 0) c) 84 (h 82 0) way) 85 (h 82 0) s) 83 = (ov_up (ov_up h 83 (h 82 0) c) 84 (h 82 0) way) 83 from rfl) (Eq.trans (show (ov_up (ov_up h 83 (h 82 0) c) 84 (h 82 0) way) 83 = (ov_up h 83 (h 82 0) c) 83 from rfl) (Eq.trans (ov_up_row h 83 (h 82 0) c) (congrArg (fun f => ov_rs f (h 82 0) c) rfl)))))), (Eq.trans (show (ov_up (ov_up (ov_up (ov_up (ov_up h 83 (h 82 0) c) 84 (h 82 0) way) 85 (h 82 0) s) 82 1 n) 82 0 ((h 82 0) + 1)) 84 = (ov_up (ov_up (ov_up (ov_up h 83 (h 82 0) c) 84 (h 82 0) way) 85 (h 82 0) s) 82 1 n) 84 from rfl) (Eq.trans (show (ov_up (ov_up (ov_up (ov_up h 83 (h 82 0) c) 84 (h 82 0) way) 85 (h 82 0) s) 82 1 n) 84 = (ov_up (ov_up (ov_up h 83 (h 82 0) c) 84 (h 82 0) way) 85 (h 82 0) s) 84 from rfl) (Eq.trans (show (ov_up (ov_up (ov_up h 83 (h 82 0) c) 84 (h 82 0) way) 85 (h 82 0) s) 84 = (ov_up (ov_up h 83 (h 82 0) c) 84 (h 82 0) way) 84 from rfl) (Eq.trans (ov_up_row (ov_up h 83 (h 82 0) c) 84 (h 82 0) way) (congrArg (fun f => ov_rs f (h 82 0) way) (Eq.trans (show (ov_up h 83 (h 82 0) c) 84 = h 84 from rfl) rfl)))))), (Eq.trans (show (ov_up (ov_up (ov_up (ov_up (ov_up h 83 (h 82 0) c) 84 (h 82 0) way) 85 (h 82 0) s) 82 1 n) 82 0 ((h 82 0) + 1)) 85 = (ov_up (ov_up (ov_up (ov_up h 83 (h 82 0) c) 84 (h 82 0) way) 85 (h 82 0) s) 82 1 n) 85 from rfl) (Eq.trans (show (ov_up (ov_up (ov_up (ov_up h 83 (h 82 0) c) 84 (h 82 0) way) 85 (h 82 0) s) 82 1 n) 85 = (ov_up (ov_up (ov_up h 83 (h 82 0) c) 84 (h 82 0) way) 85 (h 82 0) s) 85 from rfl) (Eq.trans (ov_up_row (ov_up (ov_up h 83 (h 82 0) c) 84 (h 82 0) way) 85 (h 82 0) s) (congrArg (fun f => ov_rs f (h 82 0) s) (Eq.trans (show (ov_up (ov_up h 83 (h 82 0) c) 84 (h 82 0) way) 85 = (ov_up h 83 (h 82 0) c) 85 from rfl) (Eq.trans (show (ov_up h 83 (h 82 0) c) 85 = h 85 from rfl) rfl))))))⟩
abbrev P_fReader_readStep_3_82_k3_1_58 (F : ov_H) (z : ov_Z) (h : ov_H) (t : Int → Int) (m : Int) (p : Int) (w : Int) (l : Int) (br : Int → Int) (c : Int) (x : Int) (y : Int) : Option ov_V → ov_Z → ov_H → Prop := fun r0 z' h' => ∃ r : Int, r0 = some (ov_i r) ∧ ov_I F z' h' ∧ (∀ a : Int, a ≠ 1 ∧ a ≠ 3 ∧ (a < 82 ∨ 85 < a) → h' a = h a) ∧ ((r = 0 ∧ ((h' 3 2) = (wk_F t m w l br c x y p) ∧ 1 ≤ (wk_F t m w l br c x y p) ∧ (h' 3 1) = (h 3 1))) ∨ (r = 0 ∧ ((wk_F t m w l br c x y p) = 0 ∧ (pt_is t m (pt_nt t m (pt_nt t m p)) 59) = 0 ∧ (h' 3 2) = 1 + 16 * (pt_nt t m (pt_nt t m p)) ∧ 0 ≤ (pt_nt t m (pt_nt t m p)) ∧ (h' 3 1) = (h 3 1))) ∨ (r = 1 ∧ ((wk_F t m w l br c x y p) = 0 ∧ (pt_is t m (pt_nt t m (pt_nt t m p)) 59) = 1 ∧ 0 ≤ (pt_wt t m p) ∧ (pt_wt t m p) ≤ 1 ∧ c < 13 ∧ 0 ≤ (pt_nm t m (pt_nt t m p)) ∧ (pt_nm t m (pt_nt t m p)) ≤ 9999 ∧ 0 ≤ x + (1 - (pt_wt t m p)) ∧ x + (1 - (pt_wt t m p)) ≤ 5 ∧ 0 ≤ y + (pt_wt t m p) ∧ y + (pt_wt t m p) ≤ 8 ∧ (h' 82 0) = c + 1 ∧ (h' 82 1) = 6 * (y + (pt_wt t m p)) + (x + (1 - (pt_wt t m p))) ∧ (h' 3 1) = (h 3 1) ∧ (h' 3 2) = (h 3 2)) ∧ (pt_TC t m (h' 1) (pt_nt t m (pt_nt t m (pt_nt t m p)))) ∧ ((h' 83) = ov_rs (h 83) c (6 * y + x)) ∧ ((h' 84) = ov_rs (h 84) c (pt_wt t m p)) ∧ ((h' 85) = ov_rs (h 85) c (pt_nm t m (pt_nt t m p)))))

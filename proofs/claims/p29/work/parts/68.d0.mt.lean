/-! the reference's tokens: the k-th begins at pt_pk k -/
def pt_cm (x : Int) : Int := if x = 0 then 0 else if x = 1 then 4 else x - 1
def pt_pk (t : Int → Int) (m : Int) : Nat → Int
  | 0 => pt_rn pt_bB t m 0
  | j + 1 => pt_nt t m (pt_pk t m j)
def pt_MV (t : Int → Int) (m v p : Int) : Prop := (pt_ty t m p = 2 → v = pt_w37 t m p) ∧ (pt_ty t m p = 3 → v = pt_nm t m p) ∧ (pt_ty t m p = 4 → v = t p)
/-- n tokens cut, the signs from x on yet to be read -/
def pt_MP (t : Int → Int) (m : Int) (s pl v : Int → Int) (n x : Int) : Prop := (∀ k : Int, 0 ≤ k → k < n → pl k = pt_pk t m k.toNat ∧ pl k < m ∧ s k = pt_cm (pt_ty t m (pl k)) ∧ pt_MV t m (v k) (pl k)) ∧ pt_rn pt_bB t m x = pt_pk t m n.toNat
/-- all cut: N tokens -/
def pt_MT (t : Int → Int) (m : Int) (s pl v : Int → Int) (N : Int) : Prop := (0 ≤ N ∧ N ≤ 1000 ∧ 0 ≤ m ∧ m ≤ 1000) ∧ (pl N = m ∧ s N = 0 ∧ pt_pk t m N.toNat = m) ∧ ∀ k : Int, 0 ≤ k → k < N → pl k = pt_pk t m k.toNat ∧ pl k < m ∧ s k = pt_cm (pt_ty t m (pl k)) ∧ pt_MV t m (v k) (pl k)
section
variable {t : Int → Int} {m : Int} {s pl v : Int → Int} {n x N : Int}
theorem pt_pk_b (hm : 0 ≤ m) : ∀ k : Nat, 0 ≤ pt_pk t m k ∧ pt_pk t m k ≤ m
  | 0 => by
    have b := pt_rn_b (P := pt_bB) (t := t) (n := m) (p := 0)
    exact ⟨b.1, b.2 hm⟩
  | k + 1 => by
    have ih := pt_pk_b hm k
    have b := pt_nt_le (t := t) (n := m) (p := pt_pk t m k) ih.2
    show 0 ≤ pt_nt t m (pt_pk t m k) ∧ pt_nt t m (pt_pk t m k) ≤ m
    omega
theorem pt_MT_at (K : pt_MT t m s pl v N) {k : Int} (h : 0 ≤ k ∧ k ≤ N) : pl k = pt_pk t m k.toNat ∧ (0 ≤ pl k ∧ pl k ≤ m ∧ m ≤ 1000) ∧ s k = pt_cm (pt_ty t m (pl k)) ∧ pt_MV t m (v k) (pl k) := by
  obtain ⟨⟨a0, a1, a2, a3⟩, ⟨b1, b2, b3⟩, c⟩ := K
  have pb := pt_pk_b (t := t) a2 k.toNat
  by_cases q : k = N
  · rw [q]
    have e := (pt_nd (t := t) (m := m) (p := m) (Int.le_refl m)).1
    refine ⟨by rw [b1, b3], by rw [b1]; omega, ?_, ?_⟩
    · rw [b1, b2, e]
      rfl
    · rw [b1]
      exact ⟨fun w => by omega, fun w => by omega, fun w => by omega⟩
  · obtain ⟨c1, c2, c3, c4⟩ := c k h.1 (by omega)
    exact ⟨c1, by omega, c3, c4⟩
theorem pt_MT_lt (K : pt_MT t m s pl v N) {k : Int} (h : 0 ≤ k ∧ k ≤ N) (e : pt_ty t m (pl k) ≠ 0) : k < N := by
  by_cases q : k = N
  · rw [q, K.2.1.1] at e
    exact absurd (pt_nd (t := t) (m := m) (p := m) (Int.le_refl m)).1 e
  · omega
theorem pt_MT_nx (K : pt_MT t m s pl v N) {k : Int} (h : 0 ≤ k ∧ k < N) : pl (k + 1) = pt_nt t m (pl k) := by
  rw [(pt_MT_at K (k := k) (by omega)).1, (pt_MT_at K (k := k + 1) (by omega)).1, show (k + 1).toNat = k.toNat + 1 by omega]
  rfl
theorem pt_MT_0 (K : pt_MT t m s pl v N) : pl 0 = pt_rn pt_bB t m 0 := (pt_MT_at K (k := 0) ⟨Int.le_refl 0, K.1.1⟩).1
/-- a blank is passed over -/
theorem pt_MP_b (K : pt_MP t m s pl v n x) (h : x < m) (b : t x = 10 ∨ t x = 32) : pt_MP t m s pl v n (x + 1) := ⟨K.1, (pt_rn_s h (pt_bB_t b)).symm.trans K.2⟩
theorem pt_MP_0 : pt_MP t m s pl v 0 0 := ⟨fun k a b => by omega, rfl⟩
theorem pt_MP_s (K : pt_MP t m s pl v n x) (hn : 0 ≤ n) (h : x < m) (b : ¬ (t x = 10 ∨ t x = 32)) {sv vv y : Int} (e1 : sv = pt_cm (pt_ty t m x)) (e2 : pt_MV t m vv x) (e3 : y = pt_nx t m x) : pt_MP t m (ov_rs s n sv) (ov_rs pl n x) (ov_rs v n vv) (n + 1) y := by
  have ex : x = pt_pk t m n.toNat := (pt_bl_e (Or.inr b)).symm.trans K.2
  refine ⟨fun k h0 h1 => ?_, ?_⟩
  · by_cases q : k = n
    · rw [q, ov_rs_eq, ov_rs_eq, ov_rs_eq]
      exact ⟨ex, h, e1, e2⟩
    · rw [ov_rs_ne q, ov_rs_ne q, ov_rs_ne q]
      exact K.1 k h0 (by omega)
  · rw [e3, show (n + 1).toNat = n.toNat + 1 by omega]
    show pt_nt t m x = pt_nt t m (pt_pk t m n.toNat)
    rw [← ex]
theorem pt_MP_e (K : pt_MP t m s pl v n x) (hn : 0 ≤ n ∧ n ≤ 1000) (hm : 0 ≤ m ∧ m ≤ 1000) (hx : x = m) : pt_MT t m (ov_rs s n 0) (ov_rs pl n m) v n := by
  have e : pt_pk t m n.toNat = m := by
    rw [← K.2, hx]
    exact pt_rn_n (Int.le_refl m)
  refine ⟨⟨hn.1, hn.2, hm.1, hm.2⟩, ⟨ov_rs_eq _ _ _, ov_rs_eq _ _ _, e⟩, fun k h0 h1 => ?_⟩
  rw [ov_rs_ne (by omega), ov_rs_ne (by omega)]
  exact K.1 k h0 h1
end
/-! the values of words and numbers -/
theorem pt_wv_37 {t : Int → Int} {p : Int} : ∀ k : Nat, (∀ j : Int, p ≤ j → j < p + k → 97 ≤ t j ∧ t j ≤ 122) → 0 ≤ pt_wv 37 96 t p k ∧ pt_wv 37 96 t p k + 1 ≤ 37 ^ k
  | 0, _ => ⟨Int.le_refl 0, Int.le_refl 1⟩
  | k + 1, h => by
    have ih := pt_wv_37 (t := t) (p := p) k (fun j h0 h1 => h j h0 (by omega))
    have l := h (p + k) (by omega) (by omega)
    show 0 ≤ 37 * pt_wv 37 96 t p k + (t (p + (k : Int)) - 96) ∧ 37 * pt_wv 37 96 t p k + (t (p + (k : Int)) - 96) + 1 ≤ 37 ^ (k + 1)
    rw [Int.pow_succ]
    generalize (37 : Int) ^ k = X at ih ⊢
    generalize pt_wv 37 96 t p k = A at ih ⊢
    omega
theorem pt_wv_378 {t : Int → Int} {p : Int} {k : Nat} (hk : k ≤ 8) (h : ∀ j : Int, p ≤ j → j < p + k → 97 ≤ t j ∧ t j ≤ 122) : 0 ≤ pt_wv 37 96 t p k ∧ pt_wv 37 96 t p k ≤ 3512479453921 := by
  have b := pt_wv_37 k h
  have c : k = 0 ∨ k = 1 ∨ k = 2 ∨ k = 3 ∨ k = 4 ∨ k = 5 ∨ k = 6 ∨ k = 7 ∨ k = 8 := by omega
  rcases c with rfl | rfl | rfl | rfl | rfl | rfl | rfl | rfl | rfl <;> omega
theorem pt_m_step {t : Int → Int} {p x v w1 w2 : Int} (hx : p ≤ x) (hw : x - p ≤ 8 → v = pt_wv 37 96 t p (Int.toNat (x - p))) (hr : ∀ j : Int, p ≤ j → j < x → 97 ≤ t j ∧ t j ≤ 122) (q1 : ov_gl (37 * v) → w1 = 37 * v) (q2 : ov_gl (w1 + (t x - 96)) → w2 = w1 + (t x - 96)) (hc : 97 ≤ t x ∧ t x ≤ 122) : x + 1 - p ≤ 8 → w2 = pt_wv 37 96 t p (Int.toNat (x + 1 - p)) := by
  intro h8
  have b := pt_wv_378 (t := t) (p := p) (k := Int.toNat (x - p)) (by omega) (fun j h0 h1 => hr j h0 (by omega))
  have e := hw (by omega)
  have e2 : Int.toNat (x + 1 - p) = Int.toNat (x - p) + 1 := by omega
  have r1 := q1 ⟨by omega, by omega⟩
  have r2 := q2 ⟨by omega, by omega⟩
  rw [e2]
  show _ = 37 * pt_wv 37 96 t p (Int.toNat (x - p)) + (t (p + ((Int.toNat (x - p) : Nat) : Int)) - 96)
  rw [show p + ((Int.toNat (x - p) : Nat) : Int) = x by omega]
  omega
theorem pt_d_step {t : Int → Int} {p x v w1 w2 w3 : Int} (hx : p ≤ x) (hw : x - p ≤ 4 → v = pt_wv 10 48 t p (Int.toNat (x - p))) (hr : ∀ j : Int, p ≤ j → j < x → 48 ≤ t j ∧ t j ≤ 57) (q1 : ov_gl (10 * v) → w1 = 10 * v) (q2 : ov_gl (w1 + t x) → w2 = w1 + t x) (q3 : ov_gl (w2 - 48) → w3 = w2 - 48) (hc : 48 ≤ t x ∧ t x ≤ 57) : x + 1 - p ≤ 4 → w3 = pt_wv 10 48 t p (Int.toNat (x + 1 - p)) := by
  intro h4
  have b := pt_wv_4 (t := t) (p := p) (k := Int.toNat (x - p)) (by omega) (fun j h0 h1 => hr j h0 (by omega))
  have e := hw (by omega)
  have e2 : Int.toNat (x + 1 - p) = Int.toNat (x - p) + 1 := by omega
  have r1 := q1 ⟨by omega, by omega⟩
  have r2 := q2 ⟨by omega, by omega⟩
  have r3 := q3 ⟨by omega, by omega⟩
  rw [e2]
  show _ = 10 * pt_wv 10 48 t p (Int.toNat (x - p)) + (t (p + ((Int.toNat (x - p) : Nat) : Int)) - 48)
  rw [show p + ((Int.toNat (x - p) : Nat) : Int) = x by omega]
  omega
theorem pt_MVw {t : Int → Int} {m p q v : Int} (hl : pt_rn pt_lB t m p = q) (h : p < q) (hw : q - p ≤ 8 → v = pt_wv 37 96 t p (Int.toNat (q - p))) : pt_MV t m v p ∧ pt_cm (pt_ty t m p) = (if 8 < q - p then 4 else 1) ∧ pt_nx t m p = q := by
  obtain ⟨a, b⟩ := pt_wd hl h
  refine ⟨⟨fun e => ?_, fun e => ?_, fun e => ?_⟩, ?_, b⟩
  · unfold pt_w37
    rw [b]
    refine hw ?_
    rw [a] at e
    split at e <;> omega
  · rw [a] at e
    split at e <;> omega
  · rw [a] at e
    split at e <;> omega
  · rw [a]
    split <;> rfl
theorem pt_MVd {t : Int → Int} {m p q v : Int} (hl : pt_rn pt_lB t m p = p) (hd : pt_rn pt_dB t m p = q) (h : p < q) (hw : q - p ≤ 4 → v = pt_wv 10 48 t p (Int.toNat (q - p))) : pt_MV t m v p ∧ pt_cm (pt_ty t m p) = (if 4 < q - p then 4 else 2) ∧ pt_nx t m p = q := by
  obtain ⟨a, b⟩ := pt_nb hl hd h
  refine ⟨⟨fun e => ?_, fun e => ?_, fun e => ?_⟩, ?_, b⟩
  · rw [a] at e
    split at e <;> omega
  · unfold pt_nm
    rw [b]
    refine hw ?_
    rw [a] at e
    split at e <;> omega
  · rw [a] at e
    split at e <;> omega
  · rw [a]
    split <;> rfl
theorem pt_MVs {t : Int → Int} {m p v : Int} (hl : pt_rn pt_lB t m p = p) (hd : pt_rn pt_dB t m p = p) (h : p < m) (hv : v = t p) : pt_MV t m v p ∧ (pt_sg (t p) → pt_cm (pt_ty t m p) = 3) ∧ (¬ pt_sg (t p) → pt_cm (pt_ty t m p) = 4) ∧ pt_nx t m p = p + 1 := by
  obtain ⟨a, b⟩ := pt_ot hl hd h
  refine ⟨⟨fun e => ?_, fun e => ?_, fun _ => hv⟩, fun w => ?_, fun w => ?_, b⟩
  · rw [a] at e
    split at e <;> omega
  · rw [a] at e
    split at e <;> omega
  · rw [a, if_pos w]
    rfl
  · rw [a, if_neg w]
    rfl

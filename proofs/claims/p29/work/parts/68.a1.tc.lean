/-! what the class's tape shows of the token at p -/
def pt_TC (t : Int → Int) (m : Int) (r : Int → Int) (p : Int) : Prop := r 1 = m ∧ r 3 = p ∧ r 2 = pt_ty t m p ∧ r 7 = pt_nx t m p ∧ (pt_ty t m p = 2 → r 6 = pt_w256 t m p) ∧ (pt_ty t m p = 3 → r 4 = pt_nm t m p) ∧ (pt_ty t m p = 4 → r 5 = t p) ∧ 0 ≤ p ∧ p ≤ m ∧ m ≤ 1000
theorem pt_TC_m {t : Int → Int} {m : Int} {r : Int → Int} {p : Int} (k : pt_TC t m r p) : r 1 = m := k.1
theorem pt_TC_p {t : Int → Int} {m : Int} {r : Int → Int} {p : Int} (k : pt_TC t m r p) : r 3 = p := k.2.1
theorem pt_TC_t {t : Int → Int} {m : Int} {r : Int → Int} {p : Int} (k : pt_TC t m r p) : r 2 = pt_ty t m p := k.2.2.1
theorem pt_TC_x {t : Int → Int} {m : Int} {r : Int → Int} {p : Int} (k : pt_TC t m r p) : r 7 = pt_nx t m p := k.2.2.2.1
theorem pt_TC_w {t : Int → Int} {m : Int} {r : Int → Int} {p : Int} (k : pt_TC t m r p) (e : pt_ty t m p = 2) : r 6 = pt_w256 t m p := k.2.2.2.2.1 e
theorem pt_TC_n {t : Int → Int} {m : Int} {r : Int → Int} {p : Int} (k : pt_TC t m r p) (e : pt_ty t m p = 3) : r 4 = pt_nm t m p := k.2.2.2.2.2.1 e
theorem pt_TC_s {t : Int → Int} {m : Int} {r : Int → Int} {p : Int} (k : pt_TC t m r p) (e : pt_ty t m p = 4) : r 5 = t p := k.2.2.2.2.2.2.1 e
theorem pt_TC_b {t : Int → Int} {m : Int} {r : Int → Int} {p : Int} (k : pt_TC t m r p) : 0 ≤ p ∧ p ≤ m ∧ m ≤ 1000 := k.2.2.2.2.2.2.2
abbrev pt_sg (c : Int) : Prop := c = 40 ∨ c = 41 ∨ c = 60 ∨ c = 61 ∨ c = 43 ∨ c = 45 ∨ c = 42 ∨ c = 59
/-! where the runs end -/
theorem pt_bl_e {t : Int → Int} {n p : Int} (h : n ≤ p ∨ ¬ (t p = 10 ∨ t p = 32)) : pt_rn pt_bB t n p = p := by
  rcases h with h | h
  · exact pt_rn_n h
  · exact pt_rn_f (pt_bB_f h)
theorem pt_lt_e {t : Int → Int} {n p : Int} (h : n ≤ p ∨ ¬ (97 ≤ t p ∧ t p ≤ 122)) : pt_rn pt_lB t n p = p := by
  rcases h with h | h
  · exact pt_rn_n h
  · exact pt_rn_f (pt_lB_f h)
theorem pt_dg_e {t : Int → Int} {n p : Int} (h : n ≤ p ∨ ¬ (48 ≤ t p ∧ t p ≤ 57)) : pt_rn pt_dB t n p = p := by
  rcases h with h | h
  · exact pt_rn_n h
  · exact pt_rn_f (pt_dB_f h)
/-- a run that goes on begins within -/
theorem pt_rn_in {P : Int → Bool} {t : Int → Int} {n p : Int} (h : p < pt_rn P t n p) : p < n ∧ P (t p) = true := by
  by_cases q : p < n ∧ P (t p) = true
  · exact q
  · rw [pt_rn_e q] at h
    omega
theorem pt_rn_not {P : Int → Bool} {t : Int → Int} {n p : Int} (h : pt_rn P t n p = p) (hp : p < n) : ¬ P (t p) = true := fun q => by
  have b := pt_rn_b (P := P) (t := t) (n := n) (p := p + 1)
  rw [pt_rn_s hp q] at h
  omega
theorem pt_wd {t : Int → Int} {m p q : Int} (hl : pt_rn pt_lB t m p = q) (h : p < q) : pt_ty t m p = (if 8 < q - p then 1 else 2) ∧ pt_nx t m p = q := by
  have w := pt_rn_in (P := pt_lB) (t := t) (n := m) (p := p) (by omega)
  have l : 97 ≤ t p ∧ t p ≤ 122 := of_decide_eq_true w.2
  refine ⟨?_, ?_⟩
  · unfold pt_ty
    rw [if_neg (by omega), if_pos l, hl]
  · unfold pt_nx
    rw [if_neg (by omega), if_pos l, hl]
theorem pt_nb {t : Int → Int} {m p q : Int} (hl : pt_rn pt_lB t m p = p) (hd : pt_rn pt_dB t m p = q) (h : p < q) : pt_ty t m p = (if 4 < q - p then 1 else 3) ∧ pt_nx t m p = q := by
  have w := pt_rn_in (P := pt_dB) (t := t) (n := m) (p := p) (by omega)
  have l : 48 ≤ t p ∧ t p ≤ 57 := of_decide_eq_true w.2
  refine ⟨?_, ?_⟩
  · unfold pt_ty
    rw [if_neg (by omega), if_neg (by omega), if_pos l, hd]
  · unfold pt_nx
    rw [if_neg (by omega), if_neg (by omega), if_pos l, hd]
theorem pt_ot {t : Int → Int} {m p : Int} (hl : pt_rn pt_lB t m p = p) (hd : pt_rn pt_dB t m p = p) (h : p < m) : pt_ty t m p = (if pt_sg (t p) then 4 else 1) ∧ pt_nx t m p = p + 1 := by
  have l : ¬ (97 ≤ t p ∧ t p ≤ 122) := fun q => pt_rn_not hl h (pt_lB_t q)
  have d : ¬ (48 ≤ t p ∧ t p ≤ 57) := fun q => pt_rn_not hd h (pt_dB_t q)
  refine ⟨?_, ?_⟩
  · unfold pt_ty
    rw [if_neg (by omega), if_neg l, if_neg d]
  · unfold pt_nx
    rw [if_neg (by omega), if_neg l, if_neg d]
theorem pt_nd {t : Int → Int} {m p : Int} (h : m ≤ p) : pt_ty t m p = 0 ∧ pt_nx t m p = p := by
  refine ⟨?_, ?_⟩
  · unfold pt_ty
    rw [if_pos h]
  · unfold pt_nx
    rw [if_pos h]
/-! the state behind advance -/
theorem pt_TCw {t : Int → Int} {m p q : Int} {r : Int → Int} (e1 : r 1 = m) (e3 : r 3 = p) (e7 : r 7 = q) (hl : pt_rn pt_lB t m p = q) (h : p < q) (hq : q ≤ m) (h0 : 0 ≤ p) (hm : m ≤ 1000) (ht : r 2 = if 8 < q - p then 1 else 2) (hw : q - p ≤ 8 → r 6 = pt_wv 256 0 t p (Int.toNat (q - p))) : pt_TC t m r p := by
  obtain ⟨a, b⟩ := pt_wd hl h
  refine ⟨e1, e3, by rw [ht, a], by rw [e7, b], fun e => ?_, fun e => ?_, fun e => ?_, h0, by omega, hm⟩
  · unfold pt_w256
    rw [b]
    refine hw ?_
    rw [a] at e
    split at e <;> omega
  · rw [a] at e
    split at e <;> omega
  · rw [a] at e
    split at e <;> omega
theorem pt_TCd {t : Int → Int} {m p q : Int} {r : Int → Int} (e1 : r 1 = m) (e3 : r 3 = p) (e7 : r 7 = q) (hl : pt_rn pt_lB t m p = p) (hd : pt_rn pt_dB t m p = q) (h : p < q) (hq : q ≤ m) (h0 : 0 ≤ p) (hm : m ≤ 1000) (ht : r 2 = if 4 < q - p then 1 else 3) (hw : q - p ≤ 4 → r 4 = pt_wv 10 48 t p (Int.toNat (q - p))) : pt_TC t m r p := by
  obtain ⟨a, b⟩ := pt_nb hl hd h
  refine ⟨e1, e3, by rw [ht, a], by rw [e7, b], fun e => ?_, fun e => ?_, fun e => ?_, h0, by omega, hm⟩
  · rw [a] at e
    split at e <;> omega
  · unfold pt_nm
    rw [b]
    refine hw ?_
    rw [a] at e
    split at e <;> omega
  · rw [a] at e
    split at e <;> omega
theorem pt_TCe {t : Int → Int} {m p : Int} {r : Int → Int} (e1 : r 1 = m) (e3 : r 3 = p) (e7 : r 7 = p) (h : p = m) (h0 : 0 ≤ p) (hm : m ≤ 1000) (ht : r 2 = 0) : pt_TC t m r p := by
  obtain ⟨a, b⟩ := pt_nd (t := t) (m := m) (p := p) (by omega)
  exact ⟨e1, e3, by rw [ht, a], by rw [e7, b], fun e => by omega, fun e => by omega, fun e => by omega, h0, by omega, hm⟩
theorem pt_TCg {t : Int → Int} {m p : Int} {r : Int → Int} (e1 : r 1 = m) (e3 : r 3 = p) (e7 : r 7 = p + 1) (hl : pt_rn pt_lB t m p = p) (hd : pt_rn pt_dB t m p = p) (h : p < m) (h0 : 0 ≤ p) (hm : m ≤ 1000) (hs : pt_sg (t p)) (ht : r 2 = 4) (h5 : r 5 = t p) : pt_TC t m r p := by
  obtain ⟨a, b⟩ := pt_ot hl hd h
  rw [if_pos hs] at a
  exact ⟨e1, e3, by rw [ht, a], by rw [e7, b], fun e => by omega, fun e => by omega, fun _ => h5, h0, by omega, hm⟩
theorem pt_TCn {t : Int → Int} {m p : Int} {r : Int → Int} (e1 : r 1 = m) (e3 : r 3 = p) (e7 : r 7 = p + 1) (hl : pt_rn pt_lB t m p = p) (hd : pt_rn pt_dB t m p = p) (h : p < m) (h0 : 0 ≤ p) (hm : m ≤ 1000) (hs : ¬ pt_sg (t p)) (ht : r 2 = 1) : pt_TC t m r p := by
  obtain ⟨a, b⟩ := pt_ot hl hd h
  rw [if_neg hs] at a
  exact ⟨e1, e3, by rw [ht, a], by rw [e7, b], fun e => by omega, fun e => by omega, fun e => by omega, h0, by omega, hm⟩
/-! eight bytes more -/
theorem pt_lsh {w c : Int} (hw : 0 ≤ w ∧ w < 36028797018963968) (hc : 0 ≤ c ∧ c ≤ 255) : ov_lor (ov_lshl w 8) c = 256 * w + c := by
  obtain ⟨a, rfl⟩ : ∃ a : Nat, w = (a : Int) := ⟨w.toNat, by omega⟩
  obtain ⟨b, rfl⟩ : ∃ b : Nat, c = (b : Int) := ⟨c.toNat, by omega⟩
  unfold ov_lor ov_lshl
  rw [Int64.ofInt_toInt]
  have e8 : ((((Int32.ofInt 8).toInt64 &&& 63).toBitVec.smod 64).toNat) = 8 := by decide +kernel
  have e3 : ((2 ^ 64 : Nat) : Int) = 18446744073709551616 := by decide +kernel
  have e : (Int64.ofInt (a : Int) <<< ((Int32.ofInt 8).toInt64 &&& 63) ||| Int64.ofInt (b : Int)).toBitVec.toNat = 256 * a + b := by
    show ((BitVec.ofInt 64 (a : Int)) <<< (((Int32.ofInt 8).toInt64 &&& 63).toBitVec.smod 64) ||| BitVec.ofInt 64 (b : Int)).toNat = _
    rw [BitVec.toNat_or, BitVec.shiftLeft_eq', e8, BitVec.toNat_shiftLeft, BitVec.toNat_ofInt, BitVec.toNat_ofInt, e3]
    have e1 : ((a : Int) % 18446744073709551616).toNat = a := by omega
    have e2 : ((b : Int) % 18446744073709551616).toNat = b := by omega
    rw [e1, e2, Nat.shiftLeft_eq]
    have e4 : a * 2 ^ 8 % 2 ^ 64 = a * 2 ^ 8 := Nat.mod_eq_of_lt (by omega)
    have e5 := Nat.shiftLeft_add_eq_or_of_lt (i := 8) (b := b) (by omega) a
    rw [Nat.shiftLeft_eq] at e5
    rw [e4, ← e5]
    omega
  have hb : (Int64.ofInt (a : Int) <<< ((Int32.ofInt 8).toInt64 &&& 63) ||| Int64.ofInt (b : Int)).toBitVec.toNat < 9223372036854775808 := by
    rw [e]
    omega
  have e5 : (Int64.ofInt (a : Int) <<< ((Int32.ofInt 8).toInt64 &&& 63) ||| Int64.ofInt (b : Int)).toInt = ((Int64.ofInt (a : Int) <<< ((Int32.ofInt 8).toInt64 &&& 63) ||| Int64.ofInt (b : Int)).toBitVec.toNat : Int) := by
    show BitVec.toInt _ = _
    rw [BitVec.toInt_eq_toNat_of_lt (by omega)]
  rw [e5, e]
  omega
/-- so many letters come to less than .. -/
theorem pt_wv_b {t : Int → Int} {p : Int} : ∀ k : Nat, (∀ j : Int, p ≤ j → j < p + (k + 1 : Nat) → 97 ≤ t j ∧ t j ≤ 122) → 0 ≤ pt_wv 256 0 t p (k + 1) ∧ pt_wv 256 0 t p (k + 1) + 1 ≤ 123 * 256 ^ k
  | 0, h => by
    have l := h p (by omega) (by omega)
    show 0 ≤ 256 * 0 + (t (p + ((0 : Nat) : Int)) - 0) ∧ 256 * 0 + (t (p + ((0 : Nat) : Int)) - 0) + 1 ≤ 123 * 256 ^ 0
    rw [show p + ((0 : Nat) : Int) = p by omega]
    omega
  | k + 1, h => by
    have ih := pt_wv_b (t := t) (p := p) k (fun j h0 h1 => h j h0 (by omega))
    have l := h (p + ((k + 1 : Nat) : Int)) (by omega) (by omega)
    show 0 ≤ 256 * pt_wv 256 0 t p (k + 1) + (t (p + ((k + 1 : Nat) : Int)) - 0) ∧ 256 * pt_wv 256 0 t p (k + 1) + (t (p + ((k + 1 : Nat) : Int)) - 0) + 1 ≤ 123 * 256 ^ (k + 1)
    rw [Int.pow_succ]
    generalize (256 : Int) ^ k = X at ih ⊢
    generalize pt_wv 256 0 t p (k + 1) = A at ih ⊢
    omega
theorem pt_wv_7 {t : Int → Int} {p : Int} {k : Nat} (hk : k ≤ 7) (h : ∀ j : Int, p ≤ j → j < p + k → 97 ≤ t j ∧ t j ≤ 122) : 0 ≤ pt_wv 256 0 t p k ∧ pt_wv 256 0 t p k < 36028797018963968 := by
  have c : k = 0 ∨ k = 1 ∨ k = 2 ∨ k = 3 ∨ k = 4 ∨ k = 5 ∨ k = 6 ∨ k = 7 := by omega
  rcases c with rfl | rfl | rfl | rfl | rfl | rfl | rfl | rfl
  · exact ⟨Int.le_refl 0, by show (0 : Int) < _; omega⟩
  · have w := pt_wv_b (t := t) (p := p) 0 h
    show 0 ≤ pt_wv 256 0 t p (0 + 1) ∧ pt_wv 256 0 t p (0 + 1) < 36028797018963968
    omega
  · have w := pt_wv_b (t := t) (p := p) 1 h
    show 0 ≤ pt_wv 256 0 t p (1 + 1) ∧ pt_wv 256 0 t p (1 + 1) < 36028797018963968
    omega
  · have w := pt_wv_b (t := t) (p := p) 2 h
    show 0 ≤ pt_wv 256 0 t p (2 + 1) ∧ pt_wv 256 0 t p (2 + 1) < 36028797018963968
    omega
  · have w := pt_wv_b (t := t) (p := p) 3 h
    show 0 ≤ pt_wv 256 0 t p (3 + 1) ∧ pt_wv 256 0 t p (3 + 1) < 36028797018963968
    omega
  · have w := pt_wv_b (t := t) (p := p) 4 h
    show 0 ≤ pt_wv 256 0 t p (4 + 1) ∧ pt_wv 256 0 t p (4 + 1) < 36028797018963968
    omega
  · have w := pt_wv_b (t := t) (p := p) 5 h
    show 0 ≤ pt_wv 256 0 t p (5 + 1) ∧ pt_wv 256 0 t p (5 + 1) < 36028797018963968
    omega
  · have w := pt_wv_b (t := t) (p := p) 6 h
    show 0 ≤ pt_wv 256 0 t p (6 + 1) ∧ pt_wv 256 0 t p (6 + 1) < 36028797018963968
    omega
theorem pt_w_step {t : Int → Int} {p x w : Int} (hx : p ≤ x) (hw : x - p ≤ 8 → w = pt_wv 256 0 t p (Int.toNat (x - p))) (hr : ∀ j : Int, p ≤ j → j < x → 97 ≤ t j ∧ t j ≤ 122) (hc : 97 ≤ t x ∧ t x ≤ 122) : x + 1 - p ≤ 8 → ov_lor (ov_lshl w 8) (ov_w (t x)) = pt_wv 256 0 t p (Int.toNat (x + 1 - p)) := by
  intro h8
  have b := pt_wv_7 (t := t) (p := p) (k := Int.toNat (x - p)) (by omega) (fun j h0 h1 => hr j h0 (by omega))
  have e := hw (by omega)
  have e2 : Int.toNat (x + 1 - p) = Int.toNat (x - p) + 1 := by omega
  rw [ov_wq (t x) (by omega), pt_lsh (by omega) (by omega), e, e2]
  show _ = 256 * pt_wv 256 0 t p (Int.toNat (x - p)) + (t (p + ((Int.toNat (x - p) : Nat) : Int)) - 0)
  rw [show p + ((Int.toNat (x - p) : Nat) : Int) = x by omega]
  omega
theorem pt_wv_n {t : Int → Int} {p : Int} : ∀ k : Nat, (∀ j : Int, p ≤ j → j < p + k → 48 ≤ t j ∧ t j ≤ 57) → 0 ≤ pt_wv 10 48 t p k ∧ pt_wv 10 48 t p k + 1 ≤ 10 ^ k
  | 0, _ => ⟨Int.le_refl 0, Int.le_refl 1⟩
  | k + 1, h => by
    have ih := pt_wv_n (t := t) (p := p) k (fun j h0 h1 => h j h0 (by omega))
    have l := h (p + k) (by omega) (by omega)
    show 0 ≤ 10 * pt_wv 10 48 t p k + (t (p + (k : Int)) - 48) ∧ 10 * pt_wv 10 48 t p k + (t (p + (k : Int)) - 48) + 1 ≤ 10 ^ (k + 1)
    rw [Int.pow_succ]
    generalize (10 : Int) ^ k = X at ih ⊢
    generalize pt_wv 10 48 t p k = A at ih ⊢
    omega
theorem pt_wv_4 {t : Int → Int} {p : Int} {k : Nat} (hk : k ≤ 4) (h : ∀ j : Int, p ≤ j → j < p + k → 48 ≤ t j ∧ t j ≤ 57) : 0 ≤ pt_wv 10 48 t p k ∧ pt_wv 10 48 t p k ≤ 9999 := by
  have b := pt_wv_n k h
  have c : k = 0 ∨ k = 1 ∨ k = 2 ∨ k = 3 ∨ k = 4 := by omega
  rcases c with rfl | rfl | rfl | rfl | rfl <;> omega
theorem pt_n_step {t : Int → Int} {p x v w1 w2 w3 : Int} (hx : p ≤ x) (hw : x - p ≤ 4 → v = pt_wv 10 48 t p (Int.toNat (x - p))) (hr : ∀ j : Int, p ≤ j → j < x → 48 ≤ t j ∧ t j ≤ 57) (hc : 48 ≤ t x ∧ t x ≤ 57) (q1 : ov_g (v * 10) → w1 = v * 10) (q2 : ov_g (w1 + t x) → w2 = w1 + t x) (q3 : ov_g (w2 - 48) → w3 = w2 - 48) : x + 1 - p ≤ 4 → w3 = pt_wv 10 48 t p (Int.toNat (x + 1 - p)) := by
  intro h4
  have b := pt_wv_4 (t := t) (p := p) (k := Int.toNat (x - p)) (by omega) (fun j h0 h1 => hr j h0 (by omega))
  have e := hw (by omega)
  have e2 : Int.toNat (x + 1 - p) = Int.toNat (x - p) + 1 := by omega
  have r1 := q1 ⟨by omega, by omega⟩
  have r2 := q2 ⟨by omega, by omega⟩
  have r3 := q3 ⟨by omega, by omega⟩
  rw [e2]
  show _ = 10 * pt_wv 10 48 t p (Int.toNat (x - p)) + (t (p + ((Int.toNat (x - p) : Nat) : Int)) - 48)
  rw [show p + ((Int.toNat (x - p) : Nat) : Int) = x by omega]
  omega
/-! numbers and words of a token -/
theorem pt_nx_run {t : Int → Int} {m p : Int} (h : pt_ty t m p = 3) : p < m ∧ pt_nx t m p - p ≤ 4 ∧ (∀ j : Int, p ≤ j → j < pt_nx t m p → 48 ≤ t j ∧ t j ≤ 57) := by
  unfold pt_ty at h
  unfold pt_nx
  by_cases q : m ≤ p
  · rw [if_pos q] at h
    omega
  · rw [if_neg q] at h ⊢
    by_cases l : 97 ≤ t p ∧ t p ≤ 122
    · rw [if_pos l] at h
      split at h <;> omega
    · rw [if_neg l] at h ⊢
      by_cases d : 48 ≤ t p ∧ t p ≤ 57
      · rw [if_pos d] at h ⊢
        by_cases w : 4 < pt_rn pt_dB t m p - p
        · rw [if_pos w] at h
          omega
        · exact ⟨by omega, by omega, fun j h0 h1 => of_decide_eq_true (pt_rn_i h0 h1)⟩
      · rw [if_neg d] at h
        split at h <;> omega
theorem pt_nm_b {t : Int → Int} {m p : Int} (h : pt_ty t m p = 3) : 0 ≤ pt_nm t m p ∧ pt_nm t m p ≤ 9999 := by
  obtain ⟨a, b, c⟩ := pt_nx_run h
  exact pt_wv_4 (by omega) (fun j h0 h1 => c j h0 (by omega))
theorem pt_w256_b {t : Int → Int} {m p : Int} (h : pt_ty t m p = 2) : 0 ≤ pt_w256 t m p ∧ pt_w256 t m p ≤ 9223372036854775807 := by
  obtain ⟨a, b, c⟩ := pt_ty_w h
  unfold pt_w256
  have k0 : Int.toNat (pt_nx t m p - p) ≤ 7 ∨ Int.toNat (pt_nx t m p - p) = 7 + 1 := by omega
  rcases k0 with k0 | k0
  · have := pt_wv_7 (t := t) (p := p) k0 (fun j h0 h1 => c j h0 (by omega))
    omega
  · rw [k0]
    have := pt_wv_b (t := t) (p := p) 7 (fun j h0 h1 => c j h0 (by omega))
    omega
/-! what the readers ask of a token -/
def pt_iw (t : Int → Int) (m p w : Int) : Int := if pt_ty t m p = 2 ∧ pt_w256 t m p = w then 1 else 0
def pt_is (t : Int → Int) (m p c : Int) : Int := if pt_ty t m p = 4 ∧ t p = c then 1 else 0
theorem pt_iw_b {t : Int → Int} {m p w : Int} : 0 ≤ pt_iw t m p w ∧ pt_iw t m p w ≤ 1 := by
  unfold pt_iw
  split <;> omega
theorem pt_is_b {t : Int → Int} {m p c : Int} : 0 ≤ pt_is t m p c ∧ pt_is t m p c ≤ 1 := by
  unfold pt_is
  split <;> omega
/-- the faults of one step: a number between, a sign, a word -/
def pt_fN (t : Int → Int) (m lo hi p : Int) : Int := if pt_ty t m p = 3 then (if lo ≤ pt_nm t m p ∧ pt_nm t m p ≤ hi then 0 else 4 + 16 * p) else 1 + 16 * p
def pt_fS (t : Int → Int) (m c p : Int) : Int := if pt_is t m p c = 1 then 0 else 1 + 16 * p
def pt_fW (t : Int → Int) (m w p : Int) : Int := if pt_iw t m p w = 1 then 0 else 1 + 16 * p
/-- over 0, on 1; none -/
def pt_wt (t : Int → Int) (m p : Int) : Int := if pt_iw t m p 1870030194 = 1 then 0 else if pt_iw t m p 28526 = 1 then 1 else -1
/-- clock 0, hidden 1, button 2, police 3; none -/
def pt_kt (t : Int → Int) (m p : Int) : Int := if pt_iw t m p 427021001579 = 1 then 0 else if pt_iw t m p 114801865155950 = 1 then 1 else if pt_iw t m p 108256604483438 = 1 then 2 else if pt_iw t m p 123623862526821 = 1 then 3 else -1
theorem pt_wt_b {t : Int → Int} {m p : Int} : -1 ≤ pt_wt t m p ∧ pt_wt t m p ≤ 1 := by
  unfold pt_wt
  repeat' split
  all_goals omega
theorem pt_kt_b {t : Int → Int} {m p : Int} : -1 ≤ pt_kt t m p ∧ pt_kt t m p ≤ 3 := by
  unfold pt_kt
  repeat' split
  all_goals omega
/-! the string constant's bytes, the static row, exactly -/
def pt_rv (i : Int) : Int := (ov_resv.getD i.toNat 0).toInt
def pt_bv (i : Int) : Int := (ov_byt.getD i.toNat 0).toInt
def pt_i2b (a : Int) : Int := ((Int32.ofInt a).toInt8.toInt32).toInt
theorem pt_i2b_g (a : Int) : ov_g (pt_i2b a) := ov_g32 _
theorem pt_i2b_n : ∀ j, j < 256 → ((Int32.ofInt ((j : Nat) : Int)).toInt8.toInt32).toInt = if j < 128 then ((j : Nat) : Int) else ((j : Nat) : Int) - 256 := by decide +kernel
theorem pt_i2b_e {a : Int} (h : 0 ≤ a ∧ a ≤ 255) : pt_i2b a = if a < 128 then a else a - 256 := by
  obtain ⟨j, rfl⟩ : ∃ j : Nat, a = (j : Int) := ⟨a.toNat, by omega⟩
  have q := pt_i2b_n j (by omega)
  unfold pt_i2b
  rw [q]
  by_cases c : j < 128
  · rw [if_pos c, if_pos (by omega)]
  · rw [if_neg c, if_neg (by omega)]
theorem pt_bv_c {i : Int} (h : 0 ≤ i ∧ i < 8) : pt_sg (pt_bv i) ∧ (pt_bv i = 40 ↔ i = 0) ∧ (pt_bv i = 41 ↔ i = 1) ∧ (pt_bv i = 60 ↔ i = 2) ∧ (pt_bv i = 61 ↔ i = 3) ∧ (pt_bv i = 43 ↔ i = 4) ∧ (pt_bv i = 45 ↔ i = 5) ∧ (pt_bv i = 42 ↔ i = 6) ∧ (pt_bv i = 59 ↔ i = 7) := by
  have c : i = 0 ∨ i = 1 ∨ i = 2 ∨ i = 3 ∨ i = 4 ∨ i = 5 ∨ i = 6 ∨ i = 7 := by omega
  rcases c with rfl | rfl | rfl | rfl | rfl | rfl | rfl | rfl <;> decide +kernel
theorem pt_sg_t {a i : Int} (h : 0 ≤ a ∧ a ≤ 255) (hi : 0 ≤ i ∧ i < 8) (e : pt_bv i = pt_i2b a) : pt_sg a := by
  have b := (pt_bv_c hi).1
  rw [e, pt_i2b_e h] at b
  unfold pt_sg at b ⊢
  split at b <;> omega
theorem pt_sg_f {a : Int} (h : 0 ≤ a ∧ a ≤ 255) (e : ∀ j : Int, 0 ≤ j → j < 8 → pt_bv j ≠ pt_i2b a) : ¬ pt_sg a := fun q => by
  have e0 := e 0 (by decide) (by decide)
  have e1 := e 1 (by decide) (by decide)
  have e2 := e 2 (by decide) (by decide)
  have e3 := e 3 (by decide) (by decide)
  have e4 := e 4 (by decide) (by decide)
  have e5 := e 5 (by decide) (by decide)
  have e6 := e 6 (by decide) (by decide)
  have e7 := e 7 (by decide) (by decide)
  rw [show pt_bv 0 = 40 by decide +kernel] at e0
  rw [show pt_bv 1 = 41 by decide +kernel] at e1
  rw [show pt_bv 2 = 60 by decide +kernel] at e2
  rw [show pt_bv 3 = 61 by decide +kernel] at e3
  rw [show pt_bv 4 = 43 by decide +kernel] at e4
  rw [show pt_bv 5 = 45 by decide +kernel] at e5
  rw [show pt_bv 6 = 42 by decide +kernel] at e6
  rw [show pt_bv 7 = 59 by decide +kernel] at e7
  have w : pt_i2b a = a := by
    rw [pt_i2b_e h, if_pos (by unfold pt_sg at q; omega)]
  rw [w] at e0 e1 e2 e3 e4 e5 e6 e7
  unfold pt_sg at q
  omega
theorem pt_bv_g (i : Int) : ov_g (pt_bv i) := ov_g32 _
theorem pt_rv_g (i : Int) : ov_gl (pt_rv i) := by
  have h1 := Int64.le_toInt (ov_resv.getD i.toNat 0)
  have h2 := Int64.toInt_lt (ov_resv.getD i.toNat 0)
  unfold pt_rv
  constructor <;> omega
theorem pt_nt_le {t : Int → Int} {n p : Int} (h : p ≤ n) : p ≤ pt_nt t n p ∧ pt_nt t n p ≤ n := ⟨(pt_nt_b h).1, (pt_nt_b h).2.1⟩

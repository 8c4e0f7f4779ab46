/-! the lines of a town: the fault of each, where its end is, what it makes of the town A (rows as the reference lays them, 300 + s: told already, 310 + i: where a rule's name stands) -/
def pt_se (A : Int → Int) (i : Int) : Int := if A (300 + i) = 0 then -1 else A (2 + i)
def pt_lc (a b : Int) : Int := Int.tdiv a (Nat.gcd a.toNat b.toNat : Nat) * b
def pt_szF (t : Int → Int) (m : Int) (p : Int) : Int := if (pt_fW t m 1953462126 p) ≠ 0 then (pt_fW t m 1953462126 p) else if (pt_fN t m 1 6 (pt_nt t m p)) ≠ 0 then (pt_fN t m 1 6 (pt_nt t m p)) else if (pt_fN t m 1 9 (pt_nt t m (pt_nt t m p))) ≠ 0 then (pt_fN t m 1 9 (pt_nt t m (pt_nt t m p))) else if (pt_fS t m 59 (pt_nt t m (pt_nt t m (pt_nt t m p)))) ≠ 0 then (pt_fS t m 59 (pt_nt t m (pt_nt t m (pt_nt t m p)))) else 0
def pt_brF (t : Int → Int) (m : Int) (A : Int → Int) (p : Int) : Int := if (pt_fN t m 0 (A 0 - 1) (pt_nt t m p)) ≠ 0 then (pt_fN t m 0 (A 0 - 1) (pt_nt t m p)) else if (pt_fN t m 0 (A 1 - 1) (pt_nt t m (pt_nt t m p))) ≠ 0 then (pt_fN t m 0 (A 1 - 1) (pt_nt t m (pt_nt t m p))) else if (pt_wt t m (pt_nt t m (pt_nt t m (pt_nt t m p)))) < 0 then 1 + 16 * (pt_nt t m (pt_nt t m (pt_nt t m p))) else if ov_and (ov_shr (A (226 + ((pt_nm t m (pt_nt t m p)) + 6 * (pt_nm t m (pt_nt t m (pt_nt t m p)))))) (pt_wt t m (pt_nt t m (pt_nt t m (pt_nt t m p))))) 1 ≠ 0 then 3 + 16 * (pt_nt t m (pt_nt t m (pt_nt t m p))) else 0
def pt_brA (t : Int → Int) (m : Int) (A : Int → Int) (p : Int) : Int → Int := ov_rs A (226 + ((pt_nm t m (pt_nt t m p)) + 6 * (pt_nm t m (pt_nt t m (pt_nt t m p))))) (ov_or (A (226 + ((pt_nm t m (pt_nt t m p)) + 6 * (pt_nm t m (pt_nt t m (pt_nt t m p)))))) (ov_shl 1 (pt_wt t m (pt_nt t m (pt_nt t m (pt_nt t m p))))))
def pt_stF (t : Int → Int) (m : Int) (w lo hi : Int) (A : Int → Int) (p : Int) : Int := if A (300 + w) ≠ 0 then 3 + 16 * p else if (pt_fN t m lo hi (pt_nt t m p)) ≠ 0 then (pt_fN t m lo hi (pt_nt t m p)) else 0
def pt_stA (t : Int → Int) (m : Int) (w : Int) (A : Int → Int) (p : Int) : Int → Int := ov_rs (ov_rs A (300 + w) 1) (2 + w) (pt_nm t m (pt_nt t m p))
def pt_chF (A : Int → Int) (p : Int) : Int := if A 304 ≠ 0 then 3 + 16 * p else 0
def pt_chA (A : Int → Int) : Int → Int := ov_rs (ov_rs A 304 1) 6 1
def pt_rdF (t : Int → Int) (m : Int) (kd cm p : Int) : Int := if (pt_fW t m 491496238692 p) ≠ 0 then (pt_fW t m 491496238692 p) else if (pt_fN t m 1 60 (pt_nt t m p)) ≠ 0 then (pt_fN t m 1 60 (pt_nt t m p)) else if kd < 2 ∧ 1200 < pt_lc cm (pt_nm t m (pt_nt t m p)) then 4 + 16 * (pt_nt t m p) else 0
def pt_rdC (kd cm b : Int) : Int := if kd < 2 then pt_lc cm b else cm
def pt_grF (t : Int → Int) (m : Int) (rd p : Int) : Int := if (pt_fW t m 1870030194 p) ≠ 0 then (pt_fW t m 1870030194 p) else if (pt_fN t m 0 (rd - 1) (pt_nt t m p)) ≠ 0 then (pt_fN t m 0 (rd - 1) (pt_nt t m p)) else if (pt_fW t m 6713202 (pt_nt t m (pt_nt t m p))) ≠ 0 then (pt_fW t m 6713202 (pt_nt t m (pt_nt t m p))) else if (pt_fN t m 0 rd (pt_nt t m (pt_nt t m (pt_nt t m p)))) ≠ 0 then (pt_fN t m 0 rd (pt_nt t m (pt_nt t m (pt_nt t m p)))) else 0
def pt_liF (t : Int → Int) (m : Int) (A : Int → Int) (p : Int) : Int := if (pt_fN t m 0 (A 0 - 1) (pt_nt t m p)) ≠ 0 then (pt_fN t m 0 (A 0 - 1) (pt_nt t m p)) else if (pt_fN t m 0 (A 1 - 1) (pt_nt t m (pt_nt t m p))) ≠ 0 then (pt_fN t m 0 (A 1 - 1) (pt_nt t m (pt_nt t m p))) else if 1 ≤ A (10 + 4 * ((pt_nm t m (pt_nt t m p)) + 6 * (pt_nm t m (pt_nt t m (pt_nt t m p))))) then 3 + 16 * (pt_nt t m (pt_nt t m p)) else if (pt_kt t m (pt_nt t m (pt_nt t m (pt_nt t m p)))) < 0 then 1 + 16 * (pt_nt t m (pt_nt t m (pt_nt t m p))) else if (pt_rdF t m (pt_kt t m (pt_nt t m (pt_nt t m (pt_nt t m p)))) (A 9) (pt_nt t m (pt_nt t m (pt_nt t m (pt_nt t m p))))) ≠ 0 then (pt_rdF t m (pt_kt t m (pt_nt t m (pt_nt t m (pt_nt t m p)))) (A 9) (pt_nt t m (pt_nt t m (pt_nt t m (pt_nt t m p))))) else if (pt_grF t m (pt_nm t m (pt_nt t m (pt_nt t m (pt_nt t m (pt_nt t m (pt_nt t m p)))))) (pt_nt t m (pt_nt t m (pt_nt t m (pt_nt t m (pt_nt t m (pt_nt t m p))))))) ≠ 0 then (pt_grF t m (pt_nm t m (pt_nt t m (pt_nt t m (pt_nt t m (pt_nt t m (pt_nt t m p)))))) (pt_nt t m (pt_nt t m (pt_nt t m (pt_nt t m (pt_nt t m (pt_nt t m p))))))) else 0
def pt_liB (A : Int → Int) (C kd cm rd st sp : Int) : Int → Int := ov_rs (ov_rs (ov_rs (ov_rs (ov_rs (ov_rs A 9 cm) (10 + 4 * C) (1 + kd)) (11 + 4 * C) rd) (12 + 4 * C) st) (13 + 4 * C) sp) 7 (ov_w (A 7 + 1))
def pt_liA (t : Int → Int) (m : Int) (A : Int → Int) (p : Int) : Int → Int := pt_liB A ((pt_nm t m (pt_nt t m p)) + 6 * (pt_nm t m (pt_nt t m (pt_nt t m p)))) (pt_kt t m (pt_nt t m (pt_nt t m (pt_nt t m p)))) (pt_rdC (pt_kt t m (pt_nt t m (pt_nt t m (pt_nt t m p)))) (A 9) (pt_nm t m (pt_nt t m (pt_nt t m (pt_nt t m (pt_nt t m (pt_nt t m p))))))) (pt_nm t m (pt_nt t m (pt_nt t m (pt_nt t m (pt_nt t m (pt_nt t m p)))))) (pt_nm t m (pt_nt t m (pt_nt t m (pt_nt t m (pt_nt t m (pt_nt t m (pt_nt t m (pt_nt t m p)))))))) (pt_nm t m (pt_nt t m (pt_nt t m (pt_nt t m (pt_nt t m (pt_nt t m (pt_nt t m (pt_nt t m (pt_nt t m (pt_nt t m p))))))))))
/-- a word that no rule may bear -/
def pt_RS (t : Int → Int) (m : Int) (p : Int) : Prop := ∃ j : Int, 0 ≤ j ∧ j < 20 ∧ pt_rv j = pt_w256 t m p
/-- a rule bears the name already -/
def pt_KN (t : Int → Int) (m : Int) (A : Int → Int) (p : Int) : Prop := ∃ i : Int, 0 ≤ i ∧ i < A 8 ∧ pt_w256 t m (A (310 + i)) = pt_w256 t m p
noncomputable def pt_ite (P : Prop) (a b : Int) : Int := @ite Int P (Classical.propDecidable P) a b
theorem pt_ite_t {P : Prop} {a b : Int} (h : P) : pt_ite P a b = a := by
  unfold pt_ite
  rw [if_pos h]
theorem pt_ite_f {P : Prop} {a b : Int} (h : ¬ P) : pt_ite P a b = b := by
  unfold pt_ite
  rw [if_neg h]
/-- a rule's line but its expression -/
noncomputable def pt_ruF (t : Int → Int) (m : Int) (A : Int → Int) (p : Int) : Int := if 4 ≤ A 8 then 5 + 16 * p else pt_ite (¬ (pt_ty t m (pt_nt t m p) = 2 ∧ ¬ pt_RS t m (pt_nt t m p))) (1 + 16 * (pt_nt t m p)) (pt_ite (pt_KN t m A (pt_nt t m p)) (3 + 16 * (pt_nt t m p)) 0)
def pt_ruA (t : Int → Int) (m : Int) (A : Int → Int) (p : Int) : Int → Int := ov_rs (ov_rs A (310 + A 8) (pt_nt t m p)) 8 (A 8 + 1)
/-- the code of a part that is a number or a fact; none -/
def pt_pp (t : Int → Int) (m : Int) (p : Int) : Int := if pt_ty t m p = 3 then 16 + pt_nm t m p else if (pt_iw t m p 1818584692) = 1 then 10 else if (pt_iw t m p 30064) = 1 then 11 else if pt_wt t m p = 0 then 8 else if pt_wt t m p = 1 then 9 else -1
/-- an expression from p on, at a depth d, within k steps: its fault, where its end is. 0 a part, 1 a product, 2 its rest, 3 a sum, 4 its rest, 5 a test, 6 all, 7 its rest -/
def pt_pe (t : Int → Int) (m : Int) : Nat → Nat → Int → Int → Int × Int
  | 0, _, _, p => (0, p)
  | k + 1, 0, d, p => if pt_pp t m p < 0 ∧ (pt_iw t m p 7237492) ≠ 1 ∧ (pt_is t m p 40) ≠ 1 then (1 + 16 * p, p) else if 4 < d then (5 + 16 * p, p) else if (pt_is t m p 40) = 1 then (if (pt_pe t m k 6 (d + 1) (pt_nt t m p)).1 ≠ 0 then pt_pe t m k 6 (d + 1) (pt_nt t m p) else (if pt_is t m (pt_pe t m k 6 (d + 1) (pt_nt t m p)).2 41 = 1 then (0, pt_nt t m (pt_pe t m k 6 (d + 1) (pt_nt t m p)).2) else (1 + 16 * (pt_pe t m k 6 (d + 1) (pt_nt t m p)).2, (pt_pe t m k 6 (d + 1) (pt_nt t m p)).2))) else if (pt_iw t m p 7237492) = 1 then pt_pe t m k 0 (d + 1) (pt_nt t m p) else (0, (pt_nt t m p))
  | k + 1, 1, d, p => (if (pt_pe t m k 0 d p).1 ≠ 0 then pt_pe t m k 0 d p else pt_pe t m k 2 d (pt_pe t m k 0 d p).2)
  | k + 1, 2, d, p => if (pt_is t m p 42) = 1 then (if (pt_pe t m k 0 d (pt_nt t m p)).1 ≠ 0 then pt_pe t m k 0 d (pt_nt t m p) else pt_pe t m k 2 d (pt_pe t m k 0 d (pt_nt t m p)).2) else (0, p)
  | k + 1, 3, d, p => (if (pt_pe t m k 1 d p).1 ≠ 0 then pt_pe t m k 1 d p else pt_pe t m k 4 d (pt_pe t m k 1 d p).2)
  | k + 1, 4, d, p => if (pt_is t m p 43) = 1 ∨ (pt_is t m p 45) = 1 then (if (pt_pe t m k 1 d (pt_nt t m p)).1 ≠ 0 then pt_pe t m k 1 d (pt_nt t m p) else pt_pe t m k 4 d (pt_pe t m k 1 d (pt_nt t m p)).2) else (0, p)
  | k + 1, 5, d, p => (if (pt_pe t m k 3 d p).1 ≠ 0 then pt_pe t m k 3 d p else (if pt_is t m (pt_pe t m k 3 d p).2 60 = 1 ∨ pt_is t m (pt_pe t m k 3 d p).2 61 = 1 then pt_pe t m k 3 d (pt_nt t m (pt_pe t m k 3 d p).2) else (0, (pt_pe t m k 3 d p).2)))
  | k + 1, 6, d, p => (if (pt_pe t m k 5 d p).1 ≠ 0 then pt_pe t m k 5 d p else pt_pe t m k 7 d (pt_pe t m k 5 d p).2)
  | k + 1, _ + 7, d, p => if (pt_iw t m p 6385252) = 1 ∨ (pt_iw t m p 28530) = 1 then (if (pt_pe t m k 5 d (pt_nt t m p)).1 ≠ 0 then pt_pe t m k 5 d (pt_nt t m p) else pt_pe t m k 7 d (pt_pe t m k 5 d (pt_nt t m p)).2) else (0, p)
/-- whatever the steps, if only enough of them: fault f, end q -/
def pt_EV (t : Int → Int) (m : Int) (K : Nat) (d p f q : Int) : Prop := ∃ k0 : Nat, ∀ k : Nat, k0 ≤ k → pt_pe t m k K d p = (f, q)
theorem pt_EV_u {t : Int → Int} {m : Int} {K : Nat} {d p f q f' q' : Int} (a : pt_EV t m K d p f q) (b : pt_EV t m K d p f' q') : f = f' ∧ q = q' := by
  obtain ⟨k1, h1⟩ := a
  obtain ⟨k2, h2⟩ := b
  have e := (h1 (k1 + k2) (by omega)).symm.trans (h2 (k1 + k2) (by omega))
  exact ⟨congrArg Prod.fst e, congrArg Prod.snd e⟩
theorem pt_EV0_bad {t : Int → Int} {m : Int} {d p : Int} (c : pt_pp t m p < 0 ∧ (pt_iw t m p 7237492) ≠ 1 ∧ (pt_is t m p 40) ≠ 1) : pt_EV t m 0 d p (1 + 16 * p) p := by
  refine ⟨1, fun k hk => ?_⟩
  obtain ⟨k, rfl⟩ : ∃ j : Nat, k = j + 1 := ⟨k - 1, by omega⟩
  show (if pt_pp t m p < 0 ∧ (pt_iw t m p 7237492) ≠ 1 ∧ (pt_is t m p 40) ≠ 1 then (1 + 16 * p, p) else if 4 < d then (5 + 16 * p, p) else if (pt_is t m p 40) = 1 then (if (pt_pe t m k 6 (d + 1) (pt_nt t m p)).1 ≠ 0 then pt_pe t m k 6 (d + 1) (pt_nt t m p) else (if pt_is t m (pt_pe t m k 6 (d + 1) (pt_nt t m p)).2 41 = 1 then (0, pt_nt t m (pt_pe t m k 6 (d + 1) (pt_nt t m p)).2) else (1 + 16 * (pt_pe t m k 6 (d + 1) (pt_nt t m p)).2, (pt_pe t m k 6 (d + 1) (pt_nt t m p)).2))) else if (pt_iw t m p 7237492) = 1 then pt_pe t m k 0 (d + 1) (pt_nt t m p) else (0, (pt_nt t m p))) = _
  rw [if_pos c]
theorem pt_EV0_deep {t : Int → Int} {m : Int} {d p : Int} (c : ¬ (pt_pp t m p < 0 ∧ (pt_iw t m p 7237492) ≠ 1 ∧ (pt_is t m p 40) ≠ 1)) (hd : 4 < d) : pt_EV t m 0 d p (5 + 16 * p) p := by
  refine ⟨1, fun k hk => ?_⟩
  obtain ⟨k, rfl⟩ : ∃ j : Nat, k = j + 1 := ⟨k - 1, by omega⟩
  show (if pt_pp t m p < 0 ∧ (pt_iw t m p 7237492) ≠ 1 ∧ (pt_is t m p 40) ≠ 1 then (1 + 16 * p, p) else if 4 < d then (5 + 16 * p, p) else if (pt_is t m p 40) = 1 then (if (pt_pe t m k 6 (d + 1) (pt_nt t m p)).1 ≠ 0 then pt_pe t m k 6 (d + 1) (pt_nt t m p) else (if pt_is t m (pt_pe t m k 6 (d + 1) (pt_nt t m p)).2 41 = 1 then (0, pt_nt t m (pt_pe t m k 6 (d + 1) (pt_nt t m p)).2) else (1 + 16 * (pt_pe t m k 6 (d + 1) (pt_nt t m p)).2, (pt_pe t m k 6 (d + 1) (pt_nt t m p)).2))) else if (pt_iw t m p 7237492) = 1 then pt_pe t m k 0 (d + 1) (pt_nt t m p) else (0, (pt_nt t m p))) = _
  rw [if_neg c, if_pos hd]
theorem pt_EV0_bf {t : Int → Int} {m : Int} {d p : Int} {f q : Int} (b : (pt_is t m p 40) = 1) (hd : d ≤ 4) (a : pt_EV t m 6 (d + 1) (pt_nt t m p) f q) (hf : f ≠ 0) : pt_EV t m 0 d p f q := by
  obtain ⟨k1, h1⟩ := a
  refine ⟨k1 + 1, fun k hk => ?_⟩
  obtain ⟨k, rfl⟩ : ∃ j : Nat, k = j + 1 := ⟨k - 1, by omega⟩
  show (if pt_pp t m p < 0 ∧ (pt_iw t m p 7237492) ≠ 1 ∧ (pt_is t m p 40) ≠ 1 then (1 + 16 * p, p) else if 4 < d then (5 + 16 * p, p) else if (pt_is t m p 40) = 1 then (if (pt_pe t m k 6 (d + 1) (pt_nt t m p)).1 ≠ 0 then pt_pe t m k 6 (d + 1) (pt_nt t m p) else (if pt_is t m (pt_pe t m k 6 (d + 1) (pt_nt t m p)).2 41 = 1 then (0, pt_nt t m (pt_pe t m k 6 (d + 1) (pt_nt t m p)).2) else (1 + 16 * (pt_pe t m k 6 (d + 1) (pt_nt t m p)).2, (pt_pe t m k 6 (d + 1) (pt_nt t m p)).2))) else if (pt_iw t m p 7237492) = 1 then pt_pe t m k 0 (d + 1) (pt_nt t m p) else (0, (pt_nt t m p))) = _
  rw [if_neg (fun w => w.2.2 b), if_neg (by omega), if_pos b, h1 k (by omega), if_pos hf]
theorem pt_EV0_bs {t : Int → Int} {m : Int} {d p : Int} {q : Int} (b : (pt_is t m p 40) = 1) (hd : d ≤ 4) (a : pt_EV t m 6 (d + 1) (pt_nt t m p) 0 q) (s : pt_is t m q 41 ≠ 1) : pt_EV t m 0 d p (1 + 16 * q) q := by
  obtain ⟨k1, h1⟩ := a
  refine ⟨k1 + 1, fun k hk => ?_⟩
  obtain ⟨k, rfl⟩ : ∃ j : Nat, k = j + 1 := ⟨k - 1, by omega⟩
  show (if pt_pp t m p < 0 ∧ (pt_iw t m p 7237492) ≠ 1 ∧ (pt_is t m p 40) ≠ 1 then (1 + 16 * p, p) else if 4 < d then (5 + 16 * p, p) else if (pt_is t m p 40) = 1 then (if (pt_pe t m k 6 (d + 1) (pt_nt t m p)).1 ≠ 0 then pt_pe t m k 6 (d + 1) (pt_nt t m p) else (if pt_is t m (pt_pe t m k 6 (d + 1) (pt_nt t m p)).2 41 = 1 then (0, pt_nt t m (pt_pe t m k 6 (d + 1) (pt_nt t m p)).2) else (1 + 16 * (pt_pe t m k 6 (d + 1) (pt_nt t m p)).2, (pt_pe t m k 6 (d + 1) (pt_nt t m p)).2))) else if (pt_iw t m p 7237492) = 1 then pt_pe t m k 0 (d + 1) (pt_nt t m p) else (0, (pt_nt t m p))) = _
  rw [if_neg (fun w => w.2.2 b), if_neg (by omega), if_pos b, h1 k (by omega), if_neg (fun w => w rfl), if_neg s]
theorem pt_EV0_b {t : Int → Int} {m : Int} {d p : Int} {q : Int} (b : (pt_is t m p 40) = 1) (hd : d ≤ 4) (a : pt_EV t m 6 (d + 1) (pt_nt t m p) 0 q) (s : pt_is t m q 41 = 1) : pt_EV t m 0 d p 0 (pt_nt t m q) := by
  obtain ⟨k1, h1⟩ := a
  refine ⟨k1 + 1, fun k hk => ?_⟩
  obtain ⟨k, rfl⟩ : ∃ j : Nat, k = j + 1 := ⟨k - 1, by omega⟩
  show (if pt_pp t m p < 0 ∧ (pt_iw t m p 7237492) ≠ 1 ∧ (pt_is t m p 40) ≠ 1 then (1 + 16 * p, p) else if 4 < d then (5 + 16 * p, p) else if (pt_is t m p 40) = 1 then (if (pt_pe t m k 6 (d + 1) (pt_nt t m p)).1 ≠ 0 then pt_pe t m k 6 (d + 1) (pt_nt t m p) else (if pt_is t m (pt_pe t m k 6 (d + 1) (pt_nt t m p)).2 41 = 1 then (0, pt_nt t m (pt_pe t m k 6 (d + 1) (pt_nt t m p)).2) else (1 + 16 * (pt_pe t m k 6 (d + 1) (pt_nt t m p)).2, (pt_pe t m k 6 (d + 1) (pt_nt t m p)).2))) else if (pt_iw t m p 7237492) = 1 then pt_pe t m k 0 (d + 1) (pt_nt t m p) else (0, (pt_nt t m p))) = _
  rw [if_neg (fun w => w.2.2 b), if_neg (by omega), if_pos b, h1 k (by omega), if_neg (fun w => w rfl), if_pos s]
theorem pt_EV0_not {t : Int → Int} {m : Int} {d p : Int} {f q : Int} (b : (pt_is t m p 40) ≠ 1) (w0 : (pt_iw t m p 7237492) = 1) (hd : d ≤ 4) (a : pt_EV t m 0 (d + 1) (pt_nt t m p) f q) : pt_EV t m 0 d p f q := by
  obtain ⟨k1, h1⟩ := a
  refine ⟨k1 + 1, fun k hk => ?_⟩
  obtain ⟨k, rfl⟩ : ∃ j : Nat, k = j + 1 := ⟨k - 1, by omega⟩
  show (if pt_pp t m p < 0 ∧ (pt_iw t m p 7237492) ≠ 1 ∧ (pt_is t m p 40) ≠ 1 then (1 + 16 * p, p) else if 4 < d then (5 + 16 * p, p) else if (pt_is t m p 40) = 1 then (if (pt_pe t m k 6 (d + 1) (pt_nt t m p)).1 ≠ 0 then pt_pe t m k 6 (d + 1) (pt_nt t m p) else (if pt_is t m (pt_pe t m k 6 (d + 1) (pt_nt t m p)).2 41 = 1 then (0, pt_nt t m (pt_pe t m k 6 (d + 1) (pt_nt t m p)).2) else (1 + 16 * (pt_pe t m k 6 (d + 1) (pt_nt t m p)).2, (pt_pe t m k 6 (d + 1) (pt_nt t m p)).2))) else if (pt_iw t m p 7237492) = 1 then pt_pe t m k 0 (d + 1) (pt_nt t m p) else (0, (pt_nt t m p))) = _
  rw [if_neg (fun w => w.2.1 w0), if_neg (by omega), if_neg b, if_pos w0, h1 k (by omega)]
theorem pt_EV0 {t : Int → Int} {m : Int} {d p : Int} (b : (pt_is t m p 40) ≠ 1) (w0 : (pt_iw t m p 7237492) ≠ 1) (c : 0 ≤ pt_pp t m p) (hd : d ≤ 4) : pt_EV t m 0 d p 0 (pt_nt t m p) := by
  refine ⟨1, fun k hk => ?_⟩
  obtain ⟨k, rfl⟩ : ∃ j : Nat, k = j + 1 := ⟨k - 1, by omega⟩
  show (if pt_pp t m p < 0 ∧ (pt_iw t m p 7237492) ≠ 1 ∧ (pt_is t m p 40) ≠ 1 then (1 + 16 * p, p) else if 4 < d then (5 + 16 * p, p) else if (pt_is t m p 40) = 1 then (if (pt_pe t m k 6 (d + 1) (pt_nt t m p)).1 ≠ 0 then pt_pe t m k 6 (d + 1) (pt_nt t m p) else (if pt_is t m (pt_pe t m k 6 (d + 1) (pt_nt t m p)).2 41 = 1 then (0, pt_nt t m (pt_pe t m k 6 (d + 1) (pt_nt t m p)).2) else (1 + 16 * (pt_pe t m k 6 (d + 1) (pt_nt t m p)).2, (pt_pe t m k 6 (d + 1) (pt_nt t m p)).2))) else if (pt_iw t m p 7237492) = 1 then pt_pe t m k 0 (d + 1) (pt_nt t m p) else (0, (pt_nt t m p))) = _
  rw [if_neg (fun w => by omega), if_neg (by omega), if_neg b, if_neg w0]
theorem pt_EV1_f {t : Int → Int} {m : Int} {d p : Int} {f q : Int} (a : pt_EV t m 0 d p f q) (hf : f ≠ 0) : pt_EV t m 1 d p f q := by
  obtain ⟨k1, h1⟩ := a
  refine ⟨k1 + 1, fun k hk => ?_⟩
  obtain ⟨k, rfl⟩ : ∃ j : Nat, k = j + 1 := ⟨k - 1, by omega⟩
  show ((if (pt_pe t m k 0 d p).1 ≠ 0 then pt_pe t m k 0 d p else pt_pe t m k 2 d (pt_pe t m k 0 d p).2)) = _
  rw [h1 k (by omega), if_pos hf]
theorem pt_EV1 {t : Int → Int} {m : Int} {d p : Int} {q f q2 : Int} (a : pt_EV t m 0 d p 0 q) (b : pt_EV t m 2 d q f q2) : pt_EV t m 1 d p f q2 := by
  obtain ⟨k1, h1⟩ := a
  obtain ⟨k2, h2⟩ := b
  refine ⟨k1 + k2 + 1, fun k hk => ?_⟩
  obtain ⟨k, rfl⟩ : ∃ j : Nat, k = j + 1 := ⟨k - 1, by omega⟩
  show ((if (pt_pe t m k 0 d p).1 ≠ 0 then pt_pe t m k 0 d p else pt_pe t m k 2 d (pt_pe t m k 0 d p).2)) = _
  rw [h1 k (by omega), if_neg (fun w => w rfl), h2 k (by omega)]
theorem pt_EV3_f {t : Int → Int} {m : Int} {d p : Int} {f q : Int} (a : pt_EV t m 1 d p f q) (hf : f ≠ 0) : pt_EV t m 3 d p f q := by
  obtain ⟨k1, h1⟩ := a
  refine ⟨k1 + 1, fun k hk => ?_⟩
  obtain ⟨k, rfl⟩ : ∃ j : Nat, k = j + 1 := ⟨k - 1, by omega⟩
  show ((if (pt_pe t m k 1 d p).1 ≠ 0 then pt_pe t m k 1 d p else pt_pe t m k 4 d (pt_pe t m k 1 d p).2)) = _
  rw [h1 k (by omega), if_pos hf]
theorem pt_EV3 {t : Int → Int} {m : Int} {d p : Int} {q f q2 : Int} (a : pt_EV t m 1 d p 0 q) (b : pt_EV t m 4 d q f q2) : pt_EV t m 3 d p f q2 := by
  obtain ⟨k1, h1⟩ := a
  obtain ⟨k2, h2⟩ := b
  refine ⟨k1 + k2 + 1, fun k hk => ?_⟩
  obtain ⟨k, rfl⟩ : ∃ j : Nat, k = j + 1 := ⟨k - 1, by omega⟩
  show ((if (pt_pe t m k 1 d p).1 ≠ 0 then pt_pe t m k 1 d p else pt_pe t m k 4 d (pt_pe t m k 1 d p).2)) = _
  rw [h1 k (by omega), if_neg (fun w => w rfl), h2 k (by omega)]
theorem pt_EV6_f {t : Int → Int} {m : Int} {d p : Int} {f q : Int} (a : pt_EV t m 5 d p f q) (hf : f ≠ 0) : pt_EV t m 6 d p f q := by
  obtain ⟨k1, h1⟩ := a
  refine ⟨k1 + 1, fun k hk => ?_⟩
  obtain ⟨k, rfl⟩ : ∃ j : Nat, k = j + 1 := ⟨k - 1, by omega⟩
  show ((if (pt_pe t m k 5 d p).1 ≠ 0 then pt_pe t m k 5 d p else pt_pe t m k 7 d (pt_pe t m k 5 d p).2)) = _
  rw [h1 k (by omega), if_pos hf]
theorem pt_EV6 {t : Int → Int} {m : Int} {d p : Int} {q f q2 : Int} (a : pt_EV t m 5 d p 0 q) (b : pt_EV t m 7 d q f q2) : pt_EV t m 6 d p f q2 := by
  obtain ⟨k1, h1⟩ := a
  obtain ⟨k2, h2⟩ := b
  refine ⟨k1 + k2 + 1, fun k hk => ?_⟩
  obtain ⟨k, rfl⟩ : ∃ j : Nat, k = j + 1 := ⟨k - 1, by omega⟩
  show ((if (pt_pe t m k 5 d p).1 ≠ 0 then pt_pe t m k 5 d p else pt_pe t m k 7 d (pt_pe t m k 5 d p).2)) = _
  rw [h1 k (by omega), if_neg (fun w => w rfl), h2 k (by omega)]
theorem pt_EV2_e {t : Int → Int} {m : Int} {d p : Int} (c : ¬ ((pt_is t m p 42) = 1)) : pt_EV t m 2 d p 0 p := by
  refine ⟨1, fun k hk => ?_⟩
  obtain ⟨k, rfl⟩ : ∃ j : Nat, k = j + 1 := ⟨k - 1, by omega⟩
  show (if (pt_is t m p 42) = 1 then (if (pt_pe t m k 0 d (pt_nt t m p)).1 ≠ 0 then pt_pe t m k 0 d (pt_nt t m p) else pt_pe t m k 2 d (pt_pe t m k 0 d (pt_nt t m p)).2) else (0, p)) = _
  rw [if_neg c]
theorem pt_EV2_f {t : Int → Int} {m : Int} {d p : Int} {f q : Int} (c : (pt_is t m p 42) = 1) (a : pt_EV t m 0 d (pt_nt t m p) f q) (hf : f ≠ 0) : pt_EV t m 2 d p f q := by
  obtain ⟨k1, h1⟩ := a
  refine ⟨k1 + 1, fun k hk => ?_⟩
  obtain ⟨k, rfl⟩ : ∃ j : Nat, k = j + 1 := ⟨k - 1, by omega⟩
  show (if (pt_is t m p 42) = 1 then (if (pt_pe t m k 0 d (pt_nt t m p)).1 ≠ 0 then pt_pe t m k 0 d (pt_nt t m p) else pt_pe t m k 2 d (pt_pe t m k 0 d (pt_nt t m p)).2) else (0, p)) = _
  rw [if_pos c, h1 k (by omega), if_pos hf]
theorem pt_EV2 {t : Int → Int} {m : Int} {d p : Int} {q f q2 : Int} (c : (pt_is t m p 42) = 1) (a : pt_EV t m 0 d (pt_nt t m p) 0 q) (b : pt_EV t m 2 d q f q2) : pt_EV t m 2 d p f q2 := by
  obtain ⟨k1, h1⟩ := a
  obtain ⟨k2, h2⟩ := b
  refine ⟨k1 + k2 + 1, fun k hk => ?_⟩
  obtain ⟨k, rfl⟩ : ∃ j : Nat, k = j + 1 := ⟨k - 1, by omega⟩
  show (if (pt_is t m p 42) = 1 then (if (pt_pe t m k 0 d (pt_nt t m p)).1 ≠ 0 then pt_pe t m k 0 d (pt_nt t m p) else pt_pe t m k 2 d (pt_pe t m k 0 d (pt_nt t m p)).2) else (0, p)) = _
  rw [if_pos c, h1 k (by omega), if_neg (fun w => w rfl), h2 k (by omega)]
theorem pt_EV4_e {t : Int → Int} {m : Int} {d p : Int} (c : ¬ ((pt_is t m p 43) = 1 ∨ (pt_is t m p 45) = 1)) : pt_EV t m 4 d p 0 p := by
  refine ⟨1, fun k hk => ?_⟩
  obtain ⟨k, rfl⟩ : ∃ j : Nat, k = j + 1 := ⟨k - 1, by omega⟩
  show (if (pt_is t m p 43) = 1 ∨ (pt_is t m p 45) = 1 then (if (pt_pe t m k 1 d (pt_nt t m p)).1 ≠ 0 then pt_pe t m k 1 d (pt_nt t m p) else pt_pe t m k 4 d (pt_pe t m k 1 d (pt_nt t m p)).2) else (0, p)) = _
  rw [if_neg c]
theorem pt_EV4_f {t : Int → Int} {m : Int} {d p : Int} {f q : Int} (c : (pt_is t m p 43) = 1 ∨ (pt_is t m p 45) = 1) (a : pt_EV t m 1 d (pt_nt t m p) f q) (hf : f ≠ 0) : pt_EV t m 4 d p f q := by
  obtain ⟨k1, h1⟩ := a
  refine ⟨k1 + 1, fun k hk => ?_⟩
  obtain ⟨k, rfl⟩ : ∃ j : Nat, k = j + 1 := ⟨k - 1, by omega⟩
  show (if (pt_is t m p 43) = 1 ∨ (pt_is t m p 45) = 1 then (if (pt_pe t m k 1 d (pt_nt t m p)).1 ≠ 0 then pt_pe t m k 1 d (pt_nt t m p) else pt_pe t m k 4 d (pt_pe t m k 1 d (pt_nt t m p)).2) else (0, p)) = _
  rw [if_pos c, h1 k (by omega), if_pos hf]
theorem pt_EV4 {t : Int → Int} {m : Int} {d p : Int} {q f q2 : Int} (c : (pt_is t m p 43) = 1 ∨ (pt_is t m p 45) = 1) (a : pt_EV t m 1 d (pt_nt t m p) 0 q) (b : pt_EV t m 4 d q f q2) : pt_EV t m 4 d p f q2 := by
  obtain ⟨k1, h1⟩ := a
  obtain ⟨k2, h2⟩ := b
  refine ⟨k1 + k2 + 1, fun k hk => ?_⟩
  obtain ⟨k, rfl⟩ : ∃ j : Nat, k = j + 1 := ⟨k - 1, by omega⟩
  show (if (pt_is t m p 43) = 1 ∨ (pt_is t m p 45) = 1 then (if (pt_pe t m k 1 d (pt_nt t m p)).1 ≠ 0 then pt_pe t m k 1 d (pt_nt t m p) else pt_pe t m k 4 d (pt_pe t m k 1 d (pt_nt t m p)).2) else (0, p)) = _
  rw [if_pos c, h1 k (by omega), if_neg (fun w => w rfl), h2 k (by omega)]
theorem pt_EV7_e {t : Int → Int} {m : Int} {d p : Int} (c : ¬ ((pt_iw t m p 6385252) = 1 ∨ (pt_iw t m p 28530) = 1)) : pt_EV t m 7 d p 0 p := by
  refine ⟨1, fun k hk => ?_⟩
  obtain ⟨k, rfl⟩ : ∃ j : Nat, k = j + 1 := ⟨k - 1, by omega⟩
  show (if (pt_iw t m p 6385252) = 1 ∨ (pt_iw t m p 28530) = 1 then (if (pt_pe t m k 5 d (pt_nt t m p)).1 ≠ 0 then pt_pe t m k 5 d (pt_nt t m p) else pt_pe t m k 7 d (pt_pe t m k 5 d (pt_nt t m p)).2) else (0, p)) = _
  rw [if_neg c]
theorem pt_EV7_f {t : Int → Int} {m : Int} {d p : Int} {f q : Int} (c : (pt_iw t m p 6385252) = 1 ∨ (pt_iw t m p 28530) = 1) (a : pt_EV t m 5 d (pt_nt t m p) f q) (hf : f ≠ 0) : pt_EV t m 7 d p f q := by
  obtain ⟨k1, h1⟩ := a
  refine ⟨k1 + 1, fun k hk => ?_⟩
  obtain ⟨k, rfl⟩ : ∃ j : Nat, k = j + 1 := ⟨k - 1, by omega⟩
  show (if (pt_iw t m p 6385252) = 1 ∨ (pt_iw t m p 28530) = 1 then (if (pt_pe t m k 5 d (pt_nt t m p)).1 ≠ 0 then pt_pe t m k 5 d (pt_nt t m p) else pt_pe t m k 7 d (pt_pe t m k 5 d (pt_nt t m p)).2) else (0, p)) = _
  rw [if_pos c, h1 k (by omega), if_pos hf]
theorem pt_EV7 {t : Int → Int} {m : Int} {d p : Int} {q f q2 : Int} (c : (pt_iw t m p 6385252) = 1 ∨ (pt_iw t m p 28530) = 1) (a : pt_EV t m 5 d (pt_nt t m p) 0 q) (b : pt_EV t m 7 d q f q2) : pt_EV t m 7 d p f q2 := by
  obtain ⟨k1, h1⟩ := a
  obtain ⟨k2, h2⟩ := b
  refine ⟨k1 + k2 + 1, fun k hk => ?_⟩
  obtain ⟨k, rfl⟩ : ∃ j : Nat, k = j + 1 := ⟨k - 1, by omega⟩
  show (if (pt_iw t m p 6385252) = 1 ∨ (pt_iw t m p 28530) = 1 then (if (pt_pe t m k 5 d (pt_nt t m p)).1 ≠ 0 then pt_pe t m k 5 d (pt_nt t m p) else pt_pe t m k 7 d (pt_pe t m k 5 d (pt_nt t m p)).2) else (0, p)) = _
  rw [if_pos c, h1 k (by omega), if_neg (fun w => w rfl), h2 k (by omega)]
theorem pt_EV5_f {t : Int → Int} {m : Int} {d p : Int} {f q : Int} (a : pt_EV t m 3 d p f q) (hf : f ≠ 0) : pt_EV t m 5 d p f q := by
  obtain ⟨k1, h1⟩ := a
  refine ⟨k1 + 1, fun k hk => ?_⟩
  obtain ⟨k, rfl⟩ : ∃ j : Nat, k = j + 1 := ⟨k - 1, by omega⟩
  show ((if (pt_pe t m k 3 d p).1 ≠ 0 then pt_pe t m k 3 d p else (if pt_is t m (pt_pe t m k 3 d p).2 60 = 1 ∨ pt_is t m (pt_pe t m k 3 d p).2 61 = 1 then pt_pe t m k 3 d (pt_nt t m (pt_pe t m k 3 d p).2) else (0, (pt_pe t m k 3 d p).2)))) = _
  rw [h1 k (by omega), if_pos hf]
theorem pt_EV5_e {t : Int → Int} {m : Int} {d p : Int} {q : Int} (a : pt_EV t m 3 d p 0 q) (c : ¬ (pt_is t m q 60 = 1 ∨ pt_is t m q 61 = 1)) : pt_EV t m 5 d p 0 q := by
  obtain ⟨k1, h1⟩ := a
  refine ⟨k1 + 1, fun k hk => ?_⟩
  obtain ⟨k, rfl⟩ : ∃ j : Nat, k = j + 1 := ⟨k - 1, by omega⟩
  show ((if (pt_pe t m k 3 d p).1 ≠ 0 then pt_pe t m k 3 d p else (if pt_is t m (pt_pe t m k 3 d p).2 60 = 1 ∨ pt_is t m (pt_pe t m k 3 d p).2 61 = 1 then pt_pe t m k 3 d (pt_nt t m (pt_pe t m k 3 d p).2) else (0, (pt_pe t m k 3 d p).2)))) = _
  rw [h1 k (by omega), if_neg (fun w => w rfl), if_neg c]
theorem pt_EV5 {t : Int → Int} {m : Int} {d p : Int} {q f q2 : Int} (a : pt_EV t m 3 d p 0 q) (c : pt_is t m q 60 = 1 ∨ pt_is t m q 61 = 1) (b : pt_EV t m 3 d (pt_nt t m q) f q2) : pt_EV t m 5 d p f q2 := by
  obtain ⟨k1, h1⟩ := a
  obtain ⟨k2, h2⟩ := b
  refine ⟨k1 + k2 + 1, fun k hk => ?_⟩
  obtain ⟨k, rfl⟩ : ∃ j : Nat, k = j + 1 := ⟨k - 1, by omega⟩
  show ((if (pt_pe t m k 3 d p).1 ≠ 0 then pt_pe t m k 3 d p else (if pt_is t m (pt_pe t m k 3 d p).2 60 = 1 ∨ pt_is t m (pt_pe t m k 3 d p).2 61 = 1 then pt_pe t m k 3 d (pt_nt t m (pt_pe t m k 3 d p).2) else (0, (pt_pe t m k 3 d p).2)))) = _
  rw [h1 k (by omega), if_neg (fun w => w rfl), if_pos c, h2 k (by omega)]
/-- a line's kind: 0 light, 1 bar, 2 rule, 3 to 6 walk, run, slow, runs, 7 child; none -/
def pt_lk (t : Int → Int) (m : Int) (p : Int) : Int := if (pt_iw t m p 465624852596) = 1 then 0 else if (pt_iw t m p 6447474) = 1 then 1 else if (pt_iw t m p 1920298085) = 1 then 2 else if (pt_iw t m p 2002873451) = 1 then 3 else if (pt_iw t m p 7501166) = 1 then 4 else if (pt_iw t m p 1936486263) = 1 then 5 else if (pt_iw t m p 1920298611) = 1 then 6 else if (pt_iw t m p 426953501796) = 1 then 7 else -1
/-- a line from p on, its ; aside: fault f, q where the ; is due -/
def pt_EL (t : Int → Int) (m : Int) (A : Int → Int) (p f q : Int) : Prop :=
  (pt_lk t m p = 0 ∧ f = pt_liF t m A p ∧ q = (pt_nt t m (pt_nt t m (pt_nt t m (pt_nt t m (pt_nt t m (pt_nt t m (pt_nt t m (pt_nt t m (pt_nt t m (pt_nt t m p))))))))))) ∨ (pt_lk t m p = 1 ∧ f = pt_brF t m A p ∧ q = (pt_nt t m (pt_nt t m (pt_nt t m (pt_nt t m p))))) ∨
  (pt_lk t m p = 2 ∧ pt_ruF t m A p ≠ 0 ∧ f = pt_ruF t m A p ∧ q = p) ∨ (pt_lk t m p = 2 ∧ pt_ruF t m A p = 0 ∧ pt_EV t m 6 0 (pt_nt t m (pt_nt t m p)) f q) ∨
  (3 ≤ pt_lk t m p ∧ pt_lk t m p ≤ 5 ∧ f = pt_stF t m (pt_lk t m p - 3) 1 30 A p ∧ q = (pt_nt t m (pt_nt t m p))) ∨ (pt_lk t m p = 6 ∧ f = pt_stF t m 3 0 9 A p ∧ q = (pt_nt t m (pt_nt t m p))) ∨
  (pt_lk t m p = 7 ∧ f = pt_chF A p ∧ q = (pt_nt t m p)) ∨ (pt_lk t m p < 0 ∧ f = 1 + 16 * p ∧ q = p)
/-- the town behind it -/
def pt_LA (t : Int → Int) (m : Int) (A : Int → Int) (p : Int) : Int → Int := if pt_lk t m p = 0 then pt_liA t m A p else if pt_lk t m p = 1 then pt_brA t m A p else if pt_lk t m p = 2 then pt_ruA t m A p else if pt_lk t m p = 7 then pt_chA A else pt_stA t m (pt_lk t m p - 3) A p
theorem pt_EL_u {t : Int → Int} {m : Int} {A : Int → Int} {p f q f' q' : Int} (a : pt_EL t m A p f q) (b : pt_EL t m A p f' q') : f = f' ∧ (f = 0 → q = q') := by
  unfold pt_EL at a b
  rcases a with a | a | a | a | a | a | a | a <;> rcases b with b | b | b | b | b | b | b | b
  all_goals first
    | (exact ⟨by omega, fun _ => by omega⟩)
    | (exact absurd b.1 (by omega))
    | (exact absurd a.1 (by omega))
    | (have u := pt_EV_u a.2.2 b.2.2; exact ⟨u.1, fun _ => u.2⟩)
/-- lines till the end, within k of them: the fault f; without one the town B -/
def pt_EGk (t : Int → Int) (m : Int) : Nat → (Int → Int) → Int → Int → (Int → Int) → Prop
  | 0, _, _, _, _ => False
  | k + 1, A, p, f, B => (pt_ty t m p = 0 ∧ f = 0 ∧ B = A) ∨ (pt_ty t m p ≠ 0 ∧ ∃ g q : Int, pt_EL t m A p g q ∧ ((g ≠ 0 ∧ f = g) ∨ (g = 0 ∧ pt_is t m q 59 ≠ 1 ∧ 0 ≤ q ∧ f = 1 + 16 * q) ∨ (g = 0 ∧ pt_is t m q 59 = 1 ∧ pt_EGk t m k (pt_LA t m A p) (pt_nt t m q) f B)))
def pt_EG (t : Int → Int) (m : Int) (A : Int → Int) (p f : Int) (B : Int → Int) : Prop := ∃ k : Nat, pt_EGk t m k A p f B
theorem pt_EGk_u {t : Int → Int} {m : Int} : ∀ (k k2 : Nat) {A : Int → Int} {p f f' : Int} {B B' : Int → Int}, pt_EGk t m k A p f B → pt_EGk t m k2 A p f' B' → f = f' ∧ (f = 0 → B = B')
  | 0, _, _, _, _, _, _, _, a, _ => absurd a (fun w => w)
  | _ + 1, 0, _, _, _, _, _, _, _, b => absurd b (fun w => w)
  | k + 1, k2 + 1, A, p, f, f', B, B', a, b => by
    rcases a with ⟨a1, a2, a4⟩ | ⟨a1, g, q, a2, a3⟩
    · rcases b with ⟨b1, b2, b4⟩ | ⟨b1, -⟩
      · exact ⟨by omega, fun _ => by rw [a4, b4]⟩
      · exact absurd a1 b1
    · rcases b with ⟨b1, b2, b4⟩ | ⟨b1, g2, q2, b2, b3⟩
      · exact absurd b1 a1
      · obtain ⟨u1, u2⟩ := pt_EL_u a2 b2
        rcases a3 with ⟨c1, c2⟩ | ⟨c1, c2, c4, c3⟩ | ⟨c1, c2, c3⟩
        · rcases b3 with ⟨e1, e2⟩ | ⟨e1, e2, e4, e3⟩ | ⟨e1, e2, e3⟩
          · exact ⟨by omega, fun w => by omega⟩
          · omega
          · omega
        · have u3 := u2 c1
          subst u3
          rcases b3 with ⟨e1, e2⟩ | ⟨e1, e2, e4, e3⟩ | ⟨e1, e2, e3⟩
          · omega
          · exact ⟨by omega, fun w => by omega⟩
          · exact absurd e2 c2
        · have u3 := u2 c1
          subst u3
          rcases b3 with ⟨e1, e2⟩ | ⟨e1, e2, e4, e3⟩ | ⟨e1, e2, e3⟩
          · omega
          · exact absurd c2 e2
          · exact pt_EGk_u k k2 c3 e3
theorem pt_EG_u {t : Int → Int} {m : Int} {A : Int → Int} {p f f' : Int} {B B' : Int → Int} (a : pt_EG t m A p f B) (b : pt_EG t m A p f' B') : f = f' ∧ (f = 0 → B = B') := by
  obtain ⟨k1, h1⟩ := a
  obtain ⟨k2, h2⟩ := b
  exact pt_EGk_u k1 k2 h1 h2
theorem pt_EG_e {t : Int → Int} {m : Int} {A : Int → Int} {p : Int} (h : pt_ty t m p = 0) : pt_EG t m A p 0 A := ⟨1, Or.inl ⟨h, rfl, rfl⟩⟩
theorem pt_EG_f {t : Int → Int} {m : Int} {A B : Int → Int} {p g q : Int} (h : pt_ty t m p ≠ 0) (a : pt_EL t m A p g q) (hg : g ≠ 0) : pt_EG t m A p g B := ⟨1, Or.inr ⟨h, g, q, a, Or.inl ⟨hg, rfl⟩⟩⟩
theorem pt_EG_s {t : Int → Int} {m : Int} {A B : Int → Int} {p q : Int} (h : pt_ty t m p ≠ 0) (a : pt_EL t m A p 0 q) (s : pt_is t m q 59 ≠ 1) (hq : 0 ≤ q) : pt_EG t m A p (1 + 16 * q) B := ⟨1, Or.inr ⟨h, 0, q, a, Or.inr (Or.inl ⟨rfl, s, hq, rfl⟩)⟩⟩
theorem pt_EG_n {t : Int → Int} {m : Int} {A B : Int → Int} {p q f : Int} (h : pt_ty t m p ≠ 0) (a : pt_EL t m A p 0 q) (s : pt_is t m q 59 = 1) (b : pt_EG t m (pt_LA t m A p) (pt_nt t m q) f B) : pt_EG t m A p f B := by
  obtain ⟨k, hk⟩ := b
  exact ⟨k + 1, Or.inr ⟨h, 0, q, a, Or.inr (Or.inr ⟨rfl, s, hk⟩)⟩⟩
/-- a town at first: so wide, so long, nothing told -/
def pt_A0 (w l : Int) : Int → Int := fun j => if j = 0 then w else if j = 1 then l else if j = 2 then 10 else if j = 3 ∨ j = 4 then -1 else if j = 9 then 1 else 0
/-- the fault of a town; without one the town B -/
def pt_ET (t : Int → Int) (m : Int) (f : Int) (B : Int → Int) : Prop := (pt_szF t m (pt_rn pt_bB t m 0) ≠ 0 ∧ f = pt_szF t m (pt_rn pt_bB t m 0)) ∨ (pt_szF t m (pt_rn pt_bB t m 0) = 0 ∧ pt_EG t m (pt_A0 (pt_nm t m (pt_nt t m (pt_rn pt_bB t m 0))) (pt_nm t m (pt_nt t m (pt_nt t m (pt_rn pt_bB t m 0))))) (pt_nt t m (pt_nt t m (pt_nt t m (pt_nt t m (pt_rn pt_bB t m 0))))) f B)
theorem pt_ET_u {t : Int → Int} {m : Int} {f f' : Int} {B B' : Int → Int} (a : pt_ET t m f B) (b : pt_ET t m f' B') : f = f' ∧ (f = 0 → B = B') := by
  rcases a with ⟨a1, a2⟩ | ⟨a1, a2⟩ <;> rcases b with ⟨b1, b2⟩ | ⟨b1, b2⟩
  · exact ⟨by omega, fun w => by omega⟩
  · omega
  · omega
  · exact pt_EG_u a2 b2

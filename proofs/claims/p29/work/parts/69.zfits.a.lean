/-! who was when where: the ways that fit -/
abbrev ft_A : Type := Int × Int × Int
def ft_H (r : Int → Int) : ft_A := (r 0, r 1, r 2)
/-- how many sightings at a corner fit, -1: one doesn't -/
def ft_w (q7 q8 : Int → Int) (c a b : Int) : Nat → Int
  | 0 => 0
  | n + 1 => if ft_w q7 q8 c a b n = -1 then -1 else if q7 (n : Int) = c then (if q8 (n : Int) < a ∨ b < q8 (n : Int) then -1 else ft_w q7 q8 c a b n + 1) else ft_w q7 q8 c a b n
theorem ft_w_rg {q7 q8 : Int → Int} {c a b : Int} : ∀ n : Nat, -1 ≤ ft_w q7 q8 c a b n ∧ ft_w q7 q8 c a b n ≤ (n : Int)
  | 0 => ⟨by show (-1 : Int) ≤ 0; decide, by show (0 : Int) ≤ ((0 : Nat) : Int); decide⟩
  | n + 1 => by
    have ih := ft_w_rg (q7 := q7) (q8 := q8) (c := c) (a := a) (b := b) n
    show -1 ≤ (if ft_w q7 q8 c a b n = -1 then (-1 : Int) else _) ∧ (if ft_w q7 q8 c a b n = -1 then (-1 : Int) else _) ≤ ((n + 1 : Nat) : Int)
    by_cases e : ft_w q7 q8 c a b n = -1
    · rw [if_pos e]
      omega
    · rw [if_neg e]
      by_cases e1 : q7 (n : Int) = c
      · rw [if_pos e1]
        by_cases e2 : q8 (n : Int) < a ∨ b < q8 (n : Int)
        · rw [if_pos e2]
          omega
        · rw [if_neg e2]
          omega
      · rw [if_neg e1]
        omega
theorem ft_w_bad {q7 q8 : Int → Int} {c a b : Int} {i : Nat} (e : ft_w q7 q8 c a b i = -1) : ∀ n : Nat, i ≤ n → ft_w q7 q8 c a b n = -1
  | 0, h => by
    have : i = 0 := by omega
    rw [← this]
    exact e
  | n + 1, h => by
    by_cases q : i = n + 1
    · rw [← q]
      exact e
    · have ih := ft_w_bad e n (by omega)
      show (if ft_w q7 q8 c a b n = -1 then (-1 : Int) else _) = -1
      rw [if_pos ih]
/-- a step of the class's loop -/
theorem ft_w_s {q7 q8 : Int → Int} {c a b x : Int} (hx : 0 ≤ x) (ok : ¬ ft_w q7 q8 c a b (Int.toNat x) = -1) : (¬ q7 x = c → ft_w q7 q8 c a b (Int.toNat (x + 1)) = ft_w q7 q8 c a b (Int.toNat x)) ∧ (q7 x = c → (q8 x < a ∨ b < q8 x) → ft_w q7 q8 c a b (Int.toNat (x + 1)) = -1) ∧ (q7 x = c → ¬ (q8 x < a ∨ b < q8 x) → ft_w q7 q8 c a b (Int.toNat (x + 1)) = ft_w q7 q8 c a b (Int.toNat x) + 1) := by
  have en : Int.toNat (x + 1) = Int.toNat x + 1 := by omega
  have ex : ((Int.toNat x : Nat) : Int) = x := by omega
  have u : ft_w q7 q8 c a b (Int.toNat (x + 1)) = if ft_w q7 q8 c a b (Int.toNat x) = -1 then -1 else if q7 x = c then (if q8 x < a ∨ b < q8 x then -1 else ft_w q7 q8 c a b (Int.toNat x) + 1) else ft_w q7 q8 c a b (Int.toNat x) := by
    rw [en]
    show (if ft_w q7 q8 c a b (Int.toNat x) = -1 then (-1 : Int) else if q7 ((Int.toNat x : Nat) : Int) = c then (if q8 ((Int.toNat x : Nat) : Int) < a ∨ b < q8 ((Int.toNat x : Nat) : Int) then -1 else ft_w q7 q8 c a b (Int.toNat x) + 1) else ft_w q7 q8 c a b (Int.toNat x)) = _
    rw [ex]
  rw [u, if_neg ok]
  exact ⟨fun e => if_neg e, fun e e2 => by rw [if_pos e, if_pos e2], fun e e2 => by rw [if_pos e, if_neg e2]⟩
theorem ft_w_x {q7 q8 : Int → Int} {c a b x n : Int} (h0 : 0 ≤ x) (h1 : x < n) (ok : ¬ ft_w q7 q8 c a b (Int.toNat x) = -1) (e : q7 x = c) (e2 : q8 x < a ∨ b < q8 x) : ft_w q7 q8 c a b (Int.toNat n) = -1 := ft_w_bad ((ft_w_s h0 ok).2.1 e e2) (Int.toNat n) (by omega)
/-- the class's walk home by all ways -/
def ft_lf (n m here bits mask : Int) (A : ft_A) : ft_A := if ¬ here = -1 ∧ m + here = n then (A.1 + 1, if A.1 = 0 then bits else A.2.1, ov_land A.2.2 mask) else A
def ft_lv (f : ov_TW) (c w t : Int) : Int := t + ov_wtv (f.2.1 c) (f.2.2.1 c) (f.2.2.2.1 c) (f.2.2.2.2.1 c) w t
def ft_g (f : ov_TW) (q7 q8 : Int → Int) (n : Int) (G : Int → Int → Int → Int → Int → Int → ft_A → ft_A) (c t k bits mask m w : Int) (A : ft_A) : ft_A := if ov_ob f c w = 1 then (if ft_w q7 q8 c t (ft_lv f c w t) (Int.toNat n) = -1 then A else G (ov_nxc c w) (ft_lv f c w t + f.2.2.2.2.2.1 0) (k + 1) (ov_lor bits (ov_lshl (ov_w w) k)) (ov_lor mask (ov_lshl 1 (ov_nxc c w))) (m + ft_w q7 q8 c t (ft_lv f c w t) (Int.toNat n)) A) else A
def ft_c (f : ov_TW) (q7 q8 : Int → Int) (n : Int) : Nat → Int → Int → Int → Int → Int → Int → ft_A → ft_A
  | 0, _, _, _, _, _, _, A => A
  | j + 1, c, t, k, bits, mask, m, A => if c = ov_hmf f then ft_lf n m (ft_w q7 q8 c t 2147483647 (Int.toNat n)) bits mask A else ft_g f q7 q8 n (ft_c f q7 q8 n j) c t k bits mask m 1 (ft_g f q7 q8 n (ft_c f q7 q8 n j) c t k bits mask m 0 A)
def ft_u (g : Int → ft_A → ft_A) (x : Int) (A : ft_A) : ft_A := if x ≤ 0 then A else if x = 1 then g 0 A else g 1 (g 0 A)
theorem ft_u_0 {g : Int → ft_A → ft_A} {A : ft_A} : ft_u g 0 A = A := if_pos (Int.le_refl 0)
theorem ft_u_1 {g : Int → ft_A → ft_A} {A B : ft_A} (e : B = g 0 (ft_u g 0 A)) : B = ft_u g (0 + 1) A := by
  rw [e, ft_u_0]
  unfold ft_u
  rw [if_neg (by decide), if_pos (by decide)]
theorem ft_u_2 {g : Int → ft_A → ft_A} {A B : ft_A} (e : B = g 1 (ft_u g 1 A)) : B = ft_u g (1 + 1) A := by
  rw [e]
  unfold ft_u
  rw [if_neg (by decide), if_pos rfl, if_neg (by decide), if_neg (by decide)]
theorem ft_u_id {g : Int → ft_A → ft_A} {A : ft_A} (h : ∀ w B, g w B = B) (x : Int) : ft_u g x A = A := by
  unfold ft_u
  rw [h 0, h 1]
  (repeat' split) <;> rfl
theorem ft_c_n {f : ov_TW} {q7 q8 : Int → Int} {n c t k bits mask m : Int} {A B : ft_A} {j j2 : Nat} (hj : j2 = j + 1) (nh : ¬ c = ov_hmf f) (e : B = ft_u (ft_g f q7 q8 n (ft_c f q7 q8 n j) c t k bits mask m) 2 A) : B = ft_c f q7 q8 n j2 c t k bits mask m A := by
  rw [e, hj]
  show _ = (if c = ov_hmf f then _ else _)
  rw [if_neg nh]
  unfold ft_u
  rw [if_neg (by decide), if_neg (by decide)]
theorem ft_c_h {f : ov_TW} {q7 q8 : Int → Int} {n c t k bits mask m : Int} {A B : ft_A} {j2 : Nat} (hj : 1 ≤ j2) (nh : c = ov_hmf f) (e : B = ft_lf n m (ft_w q7 q8 c t 2147483647 (Int.toNat n)) bits mask A) : B = ft_c f q7 q8 n j2 c t k bits mask m A := by
  obtain ⟨j, hj2⟩ : ∃ j : Nat, j2 = j + 1 := ⟨j2 - 1, by omega⟩
  rw [e, hj2]
  show _ = (if c = ov_hmf f then _ else _)
  rw [if_pos nh]
theorem ft_lf_0 {n m here bits mask : Int} {A : ft_A} (h : here = -1 ∨ ¬ m + here = n) : A = ft_lf n m here bits mask A := by
  unfold ft_lf
  rw [if_neg (fun q => by
    rcases h with h | h
    · exact q.1 h
    · exact h q.2)]
theorem ft_lf_1 {n m here bits mask : Int} {A : ft_A} (h1 : ¬ here = -1) (h2 : m + here = n) {a b c : Int} (ea : a = A.1 + 1) (eb : A.1 = 0 ∧ b = bits ∨ ¬ A.1 = 0 ∧ b = A.2.1) (ec : c = ov_land A.2.2 mask) : (a, b, c) = ft_lf n m here bits mask A := by
  unfold ft_lf
  rw [if_pos ⟨h1, h2⟩, ea, ec]
  rcases eb with ⟨z, e⟩ | ⟨z, e⟩
  · rw [if_pos z, e]
  · rw [if_neg z, e]
theorem ft_g_no {f : ov_TW} {q7 q8 : Int → Int} {n c t k bits mask m w : Int} {G : Int → Int → Int → Int → Int → Int → ft_A → ft_A} {A : ft_A} (h : ¬ ov_ob f c w = 1) : A = ft_g f q7 q8 n G c t k bits mask m w A := by
  unfold ft_g
  rw [if_neg h]
theorem ft_g_mi {f : ov_TW} {q7 q8 : Int → Int} {n c t k bits mask m w : Int} {G : Int → Int → Int → Int → Int → Int → ft_A → ft_A} {A : ft_A} {here lv : Int} (h : ov_ob f c w = 1) (hl : lv = ft_lv f c w t) (hh : here = ft_w q7 q8 c t lv (Int.toNat n)) (e : here = -1) : A = ft_g f q7 q8 n G c t k bits mask m w A := by
  unfold ft_g
  rw [if_pos h, ← hl, ← hh, if_pos e]
theorem ft_g_go {f : ov_TW} {q7 q8 : Int → Int} {n c t k bits mask m w : Int} {G : Int → Int → Int → Int → Int → Int → ft_A → ft_A} {A B : ft_A} {here lv nx t2 k2 b2 m2 mm : Int} (h : ov_ob f c w = 1) (hl : lv = ft_lv f c w t) (hh : here = ft_w q7 q8 c t lv (Int.toNat n)) (e : ¬ here = -1) (e1 : nx = ov_nxc c w) (e2 : t2 = lv + f.2.2.2.2.2.1 0) (e3 : k2 = k + 1) (e4 : b2 = ov_lor bits (ov_lshl (ov_w w) k)) (e5 : mm = ov_lor mask (ov_lshl 1 nx)) (e6 : m2 = m + here) (eB : B = G nx t2 k2 b2 mm m2 A) : B = ft_g f q7 q8 n G c t k bits mask m w A := by
  unfold ft_g
  rw [if_pos h, ← hl, ← hh, if_neg e, eB, e5, e1, e2, e3, e4, e6]
/-- two to the k -/
def ft_p (k : Nat) : Int := ((2 ^ k : Nat) : Int)
theorem ft_p_0 (k : Nat) : 1 ≤ ft_p k := by
  have := Nat.one_le_two_pow (n := k)
  unfold ft_p
  omega
theorem ft_p_s {k : Nat} (h : 1 ≤ k) : ft_p k = ft_p (k - 1) + ft_p (k - 1) := by
  obtain ⟨j, hj⟩ : ∃ j : Nat, k = j + 1 := ⟨k - 1, by omega⟩
  rw [hj, show j + 1 - 1 = j by omega]
  unfold ft_p
  rw [Nat.pow_succ]
  omega
/-- the reference's sightings as a set of bits -/
def ft_b (s : Int → Int) (x y a b : Int) : Nat → Int
  | 0 => 0
  | n + 1 => ov_or (ft_b s x y a b n) (if s (92 + 3 * (n : Int)) = x ∧ s (92 + 3 * (n : Int) + 1) = y ∧ a ≤ s (92 + 3 * (n : Int) + 2) ∧ s (92 + 3 * (n : Int) + 2) ≤ b then ov_shl 1 (n : Int) else 0)
theorem ft_b_s {s : Int → Int} {x y a b i v : Int} (hi : 0 ≤ i) (h : (s (92 + 3 * i) = x ∧ s (92 + 3 * i + 1) = y ∧ a ≤ s (92 + 3 * i + 2) ∧ s (92 + 3 * i + 2) ≤ b) ∧ v = ov_shl 1 i ∨ ¬ (s (92 + 3 * i) = x ∧ s (92 + 3 * i + 1) = y ∧ a ≤ s (92 + 3 * i + 2) ∧ s (92 + 3 * i + 2) ≤ b) ∧ v = 0) {u : Int} (hu : u = ft_b s x y a b (Int.toNat i)) : ov_or u v = ft_b s x y a b (Int.toNat (i + 1)) := by
  rw [show Int.toNat (i + 1) = Int.toNat i + 1 by omega, hu]
  show _ = ov_or (ft_b s x y a b (Int.toNat i)) (if s (92 + 3 * ((Int.toNat i : Nat) : Int)) = x ∧ s (92 + 3 * ((Int.toNat i : Nat) : Int) + 1) = y ∧ a ≤ s (92 + 3 * ((Int.toNat i : Nat) : Int) + 2) ∧ s (92 + 3 * ((Int.toNat i : Nat) : Int) + 2) ≤ b then ov_shl 1 ((Int.toNat i : Nat) : Int) else 0)
  rw [show ((Int.toNat i : Nat) : Int) = i by omega]
  rcases h with ⟨h, e⟩ | ⟨h, e⟩
  · rw [if_pos h, e]
  · rw [if_neg h, e]
def ft_fm (n met co ws : Int) (A : ft_A) : ft_A := if met = ov_shl 1 n - 1 then (A.1 + 1, if A.1 = 0 then ws else A.2.1, if A.1 = 0 then co else ov_land A.2.2 co) else A
theorem ft_fm_0 {n met co ws : Int} {A : ft_A} (h : ¬ met = ov_shl 1 n - 1) : A = ft_fm n met co ws A := by
  unfold ft_fm
  rw [if_neg h]
theorem ft_fm_1 {n met co ws a b c : Int} {A : ft_A} (h : met = ov_shl 1 n - 1) (ea : a = A.1 + 1) (eb : A.1 = 0 ∧ b = ws ∧ c = co ∨ ¬ A.1 = 0 ∧ b = A.2.1 ∧ c = ov_land A.2.2 co) : (a, b, c) = ft_fm n met co ws A := by
  unfold ft_fm
  rw [if_pos h, ea]
  rcases eb with ⟨z, e, e2⟩ | ⟨z, e, e2⟩
  · rw [if_pos z, if_pos z, e, e2]
  · rw [if_neg z, if_neg z, e, e2]
def ft_mg (f s : Int → Int) (n : Int) (G : Int → Int → Int → Int → Int → Int → ft_A → ft_A) (x y t m co ws w : Int) (A : ft_A) : ft_A := if ov_cgi f x y w = 1 then G (x + 1 - w) (y + w) (t + ov_wm f (6 * y + x) w t + f 2) (ov_or m (ft_b s x y t (t + ov_wm f (6 * y + x) w t) (Int.toNat n))) co (ov_or ws (ov_shl w (x + y))) A else A
def ft_m (f s : Int → Int) (n : Int) : Nat → Int → Int → Int → Int → Int → Int → ft_A → ft_A
  | 0, _, _, _, _, _, _, A => A
  | k + 1, x, y, t, m, co, ws, A => if x = f 0 - 1 ∧ y = f 1 - 1 then ft_fm n (ov_or m (ft_b s x y t 2000000000 (Int.toNat n))) (ov_lor co (ov_lshl 1 (6 * y + x))) ws A else ft_mg f s n (ft_m f s n k) x y t m (ov_lor co (ov_lshl 1 (6 * y + x))) ws 1 (ft_mg f s n (ft_m f s n k) x y t m (ov_lor co (ov_lshl 1 (6 * y + x))) ws 0 A)
theorem ft_m_n {f s : Int → Int} {n x y t m co ws c2 : Int} {A B : ft_A} {j j2 : Nat} (hj : j2 = j + 1) (nh : ¬ (x = f 0 - 1 ∧ y = f 1 - 1)) (hc : c2 = ov_lor co (ov_lshl 1 (6 * y + x))) (e : B = ft_u (ft_mg f s n (ft_m f s n j) x y t m c2 ws) 2 A) : B = ft_m f s n j2 x y t m co ws A := by
  rw [e, hj, hc]
  show _ = (if x = f 0 - 1 ∧ y = f 1 - 1 then _ else _)
  rw [if_neg nh]
  unfold ft_u
  rw [if_neg (by decide), if_neg (by decide)]
theorem ft_m_h {f s : Int → Int} {n x y t m co ws c2 : Int} {A B : ft_A} {j2 : Nat} (hj : 1 ≤ j2) (nh : x = f 0 - 1 ∧ y = f 1 - 1) (hc : c2 = ov_lor co (ov_lshl 1 (6 * y + x))) (e : B = ft_fm n (ov_or m (ft_b s x y t 2000000000 (Int.toNat n))) c2 ws A) : B = ft_m f s n j2 x y t m co ws A := by
  obtain ⟨j, hj2⟩ : ∃ j : Nat, j2 = j + 1 := ⟨j2 - 1, by omega⟩
  rw [e, hj2, hc]
  show _ = (if x = f 0 - 1 ∧ y = f 1 - 1 then _ else _)
  rw [if_pos nh]
theorem ft_mg_no {f s : Int → Int} {n x y t m co ws w : Int} {G : Int → Int → Int → Int → Int → Int → ft_A → ft_A} {A : ft_A} (h : ¬ ov_cgi f x y w = 1) : A = ft_mg f s n G x y t m co ws w A := by
  unfold ft_mg
  rw [if_neg h]
theorem ft_mg_go {f s : Int → Int} {n x y t m co ws w : Int} {G : Int → Int → Int → Int → Int → Int → ft_A → ft_A} {A B : ft_A} {x2 y2 out t2 set m2 w2 : Int} (h : ov_cgi f x y w = 1) (e1 : x2 = x + 1 - w) (e2 : y2 = y + w) (e3 : out = t + ov_wm f (6 * y + x) w t) (e4 : t2 = out + f 2) (e5 : set = ft_b s x y t out (Int.toNat n)) (e6 : m2 = ov_or m set) (e7 : w2 = ov_or ws (ov_shl w (x + y))) (eB : B = G x2 y2 t2 m2 co w2 A) : B = ft_mg f s n G x y t m co ws w A := by
  unfold ft_mg
  rw [if_pos h, ← e3, ← e5, eB, e1, e2, e4, e6, e7]
/-! sets of bits -/
theorem ft_i32 {a : Nat} (h : a < 2147483648) : (Int32.ofInt (a : Int)).toBitVec = BitVec.ofNat 32 a := by
  show BitVec.ofInt 32 (a : Int) = BitVec.ofNat 32 a
  exact BitVec.ofInt_natCast 32 a
theorem ft_or {a b : Nat} (ha : a < 65536) (hb : b < 65536) : ov_or (a : Int) (b : Int) = ((a ||| b : Nat) : Int) := by
  have lt : a ||| b < 65536 := Nat.or_lt_two_pow (n := 16) ha hb
  have e : Int32.ofInt (a : Int) ||| Int32.ofInt (b : Int) = Int32.ofInt ((a ||| b : Nat) : Int) := by
    apply Int32.toBitVec_inj.mp
    rw [Int32.toBitVec_or, ft_i32 (by omega), ft_i32 (by omega), ft_i32 (by omega)]
    apply BitVec.eq_of_toNat_eq
    rw [BitVec.toNat_or, BitVec.toNat_ofNat, BitVec.toNat_ofNat, BitVec.toNat_ofNat, Nat.mod_eq_of_lt (show a < 2 ^ 32 by omega), Nat.mod_eq_of_lt (show b < 2 ^ 32 by omega), Nat.mod_eq_of_lt (show a ||| b < 2 ^ 32 by omega)]
  unfold ov_or
  rw [e]
  exact ov_wq _ ⟨by omega, by omega⟩
theorem ft_shl : ∀ n, n < 14 → ov_shl 1 ((n : Nat) : Int) = ((2 ^ n : Nat) : Int) ∧ ov_shl 0 ((n : Nat) : Int) = 0 ∧ ov_lshl (ov_w 1) ((n : Nat) : Int) = ((2 ^ n : Nat) : Int) ∧ ov_lshl (ov_w 0) ((n : Nat) : Int) = 0 := by decide +kernel
theorem ft_i64 (a : Nat) : (Int64.ofInt (a : Int)).toBitVec = BitVec.ofNat 64 a := by
  show BitVec.ofInt 64 (a : Int) = BitVec.ofNat 64 a
  exact BitVec.ofInt_natCast 64 a
theorem ft_lor {a b : Nat} (ha : a < 65536) (hb : b < 65536) : ov_lor (a : Int) (b : Int) = ((a ||| b : Nat) : Int) := by
  have lt : a ||| b < 65536 := Nat.or_lt_two_pow (n := 16) ha hb
  have e : Int64.ofInt (a : Int) ||| Int64.ofInt (b : Int) = Int64.ofInt ((a ||| b : Nat) : Int) := by
    apply Int64.toBitVec_inj.mp
    rw [Int64.toBitVec_or, ft_i64, ft_i64, ft_i64]
    apply BitVec.eq_of_toNat_eq
    rw [BitVec.toNat_or, BitVec.toNat_ofNat, BitVec.toNat_ofNat, BitVec.toNat_ofNat, Nat.mod_eq_of_lt (show a < 2 ^ 64 by omega), Nat.mod_eq_of_lt (show b < 2 ^ 64 by omega), Nat.mod_eq_of_lt (show a ||| b < 2 ^ 64 by omega)]
  unfold ov_lor
  rw [e]
  exact ov_toIntL ⟨by omega, by omega⟩
def ft_B (P : Nat → Bool) : Nat → Nat
  | 0 => 0
  | n + 1 => ft_B P n ||| (if P n then 2 ^ n else 0)
theorem ft_B_t {P : Nat → Bool} (i : Nat) : ∀ n : Nat, (ft_B P n).testBit i = (decide (i < n) && P i)
  | 0 => by
    show Nat.testBit 0 i = _
    rw [Nat.zero_testBit, decide_eq_false (by omega)]
    rfl
  | n + 1 => by
    show (ft_B P n ||| (if P n then 2 ^ n else 0)).testBit i = _
    rw [Nat.testBit_or, ft_B_t i n]
    by_cases q : i = n
    · rw [q, decide_eq_false (show ¬ n < n by omega), decide_eq_true (show n < n + 1 by omega)]
      cases hp : P n
      · rw [if_neg (by decide), Nat.zero_testBit]
        rfl
      · rw [if_pos rfl, Nat.testBit_two_pow_self]
        rfl
    · have z : (if P n then 2 ^ n else 0 : Nat).testBit i = false := by
        split
        · rw [Nat.testBit_two_pow, decide_eq_false (fun e => q e.symm)]
        · exact Nat.zero_testBit i
      rw [z, Bool.or_false]
      by_cases l : i < n
      · rw [decide_eq_true l, decide_eq_true (show i < n + 1 by omega)]
      · rw [decide_eq_false l, decide_eq_false (show ¬ i < n + 1 by omega)]
theorem ft_B_lt {P : Nat → Bool} : ∀ n : Nat, ft_B P n < 2 ^ n
  | 0 => by
    show 0 < 1
    decide
  | n + 1 => by
    have ih := ft_B_lt (P := P) n
    have p : 2 ^ (n + 1) = 2 ^ n * 2 := Nat.pow_succ 2 n
    show ft_B P n ||| (if P n then 2 ^ n else 0) < 2 ^ (n + 1)
    refine Nat.or_lt_two_pow (by omega) ?_
    have p0 := Nat.one_le_two_pow (n := n)
    split <;> omega
noncomputable def ft_P (s : Int → Int) (x y a b : Int) (i : Nat) : Bool := decide (s (92 + 3 * (i : Int)) = x ∧ s (92 + 3 * (i : Int) + 1) = y ∧ a ≤ s (92 + 3 * (i : Int) + 2) ∧ s (92 + 3 * (i : Int) + 2) ≤ b)
theorem ft_p2 (n : Nat) (h : n ≤ 8) : 2 ^ n ≤ 256 := by
  have t : ∀ n, n < 9 → 2 ^ n ≤ 256 := by decide
  exact t n (by omega)
theorem ft_b_B {s : Int → Int} {x y a b : Int} : ∀ n : Nat, n ≤ 8 → ft_b s x y a b n = ((ft_B (ft_P s x y a b) n : Nat) : Int)
  | 0, _ => rfl
  | n + 1, h => by
    have ih := ft_b_B (s := s) (x := x) (y := y) (a := a) (b := b) n (by omega)
    have l := ft_B_lt (P := ft_P s x y a b) n
    have l2 := ft_p2 n (by omega)
    show ov_or (ft_b s x y a b n) (if s (92 + 3 * (n : Int)) = x ∧ s (92 + 3 * (n : Int) + 1) = y ∧ a ≤ s (92 + 3 * (n : Int) + 2) ∧ s (92 + 3 * (n : Int) + 2) ≤ b then ov_shl 1 (n : Int) else 0) = ((ft_B (ft_P s x y a b) n ||| (if ft_P s x y a b n = true then 2 ^ n else 0) : Nat) : Int)
    rw [ih]
    by_cases q : s (92 + 3 * (n : Int)) = x ∧ s (92 + 3 * (n : Int) + 1) = y ∧ a ≤ s (92 + 3 * (n : Int) + 2) ∧ s (92 + 3 * (n : Int) + 2) ≤ b
    · have q2 : ft_P s x y a b n = true := decide_eq_true q
      rw [if_pos q, if_pos q2, (ft_shl n (by omega)).1]
      exact ft_or (by omega) (by omega)
    · have q2 : ¬ ft_P s x y a b n = true := fun e => q (of_decide_eq_true e)
      rw [if_neg q, if_neg q2]
      have := ft_or (a := ft_B (ft_P s x y a b) n) (b := 0) (by omega) (by decide)
      exact this
/-- how many -/
def ft_n (p : Nat → Bool) : Nat → Int
  | 0 => 0
  | n + 1 => ft_n p n + (if p n then 1 else 0)
theorem ft_n_rg {p : Nat → Bool} : ∀ n : Nat, 0 ≤ ft_n p n ∧ ft_n p n ≤ (n : Int)
  | 0 => ⟨Int.le_refl 0, Int.le_refl 0⟩
  | n + 1 => by
    have ih := ft_n_rg (p := p) n
    show 0 ≤ ft_n p n + (if p n then 1 else 0) ∧ ft_n p n + (if p n then 1 else 0) ≤ ((n + 1 : Nat) : Int)
    split <;> omega
theorem ft_n_cg {p q : Nat → Bool} : ∀ n : Nat, (∀ i, i < n → p i = q i) → ft_n p n = ft_n q n
  | 0, _ => rfl
  | n + 1, h => by
    show ft_n p n + (if p n then 1 else 0) = ft_n q n + (if q n then 1 else 0)
    rw [ft_n_cg n (fun i hi => h i (by omega)), h n (by omega)]
theorem ft_n_or {p q : Nat → Bool} : ∀ n : Nat, (∀ i, i < n → p i = true → q i = true → False) → ft_n (fun i => p i || q i) n = ft_n p n + ft_n q n
  | 0, _ => rfl
  | n + 1, h => by
    have ih := ft_n_or n (fun i hi => h i (by omega))
    have hn := h n (by omega)
    show ft_n (fun i => p i || q i) n + (if (p n || q n) = true then 1 else 0) = ft_n p n + (if p n then 1 else 0) + (ft_n q n + (if q n then 1 else 0))
    rw [ih]
    cases hp : p n
    · cases hq : q n
      · show ft_n p n + ft_n q n + (0 : Int) = ft_n p n + (0 : Int) + (ft_n q n + (0 : Int))
        omega
      · show ft_n p n + ft_n q n + (1 : Int) = ft_n p n + (0 : Int) + (ft_n q n + (1 : Int))
        omega
    · cases hq : q n
      · show ft_n p n + ft_n q n + (1 : Int) = ft_n p n + (1 : Int) + (ft_n q n + (0 : Int))
        omega
      · exact absurd hq (fun e => hn hp e)
theorem ft_n_all {p : Nat → Bool} : ∀ n : Nat, ft_n p n = (n : Int) ↔ ∀ i, i < n → p i = true
  | 0 => ⟨fun _ i hi => absurd hi (by omega), fun _ => rfl⟩
  | n + 1 => by
    have ih := ft_n_all (p := p) n
    have rg := ft_n_rg (p := p) n
    have u : ft_n p (n + 1) = ft_n p n + (if p n then 1 else 0) := rfl
    rw [u]
    constructor
    · intro h i hi
      by_cases pn : p n = true
      · rw [if_pos pn] at h
        by_cases e : i = n
        · rw [e]
          exact pn
        · exact ih.1 (by omega) i (by omega)
      · rw [if_neg pn] at h
        omega
    · intro h
      rw [if_pos (h n (by omega)), ih.2 (fun i hi => h i (by omega))]
      omega
/-- all bits set -/
theorem ft_full {S m : Nat} (hS : ∀ i, S.testBit i = true → i < m) : S = 2 ^ m - 1 ↔ ft_n S.testBit m = (m : Int) := by
  rw [ft_n_all]
  constructor
  · intro e i hi
    rw [e, Nat.testBit_two_pow_sub_one]
    exact decide_eq_true hi
  · intro h
    apply Nat.eq_of_testBit_eq
    intro i
    rw [Nat.testBit_two_pow_sub_one]
    by_cases l : i < m
    · rw [h i l, decide_eq_true l]
    · rw [decide_eq_false l]
      cases e : S.testBit i
      · rfl
      · exact absurd (hS i e) l
theorem ft_w_n {q7 q8 : Int → Int} {c a b : Int} : ∀ n : Nat, (ft_w q7 q8 c a b n = -1 ∧ ∃ i : Nat, i < n ∧ q7 (i : Int) = c ∧ ¬ (a ≤ q8 (i : Int) ∧ q8 (i : Int) ≤ b)) ∨ (¬ ft_w q7 q8 c a b n = -1 ∧ ft_w q7 q8 c a b n = ft_n (fun i => decide (q7 (i : Int) = c)) n ∧ ∀ i : Nat, i < n → q7 (i : Int) = c → a ≤ q8 (i : Int) ∧ q8 (i : Int) ≤ b)
  | 0 => Or.inr ⟨by show ¬ (0 : Int) = -1; decide, rfl, fun i hi => absurd hi (by omega)⟩
  | n + 1 => by
    have u : ft_w q7 q8 c a b (n + 1) = if ft_w q7 q8 c a b n = -1 then -1 else if q7 (n : Int) = c then (if q8 (n : Int) < a ∨ b < q8 (n : Int) then -1 else ft_w q7 q8 c a b n + 1) else ft_w q7 q8 c a b n := rfl
    have v : ft_n (fun i => decide (q7 (i : Int) = c)) (n + 1) = ft_n (fun i => decide (q7 (i : Int) = c)) n + (if decide (q7 (n : Int) = c) = true then 1 else 0) := rfl
    have rg := ft_w_rg (q7 := q7) (q8 := q8) (c := c) (a := a) (b := b) n
    rcases ft_w_n (q7 := q7) (q8 := q8) (c := c) (a := a) (b := b) n with ⟨e, i, hi, h1, h2⟩ | ⟨e, e2, e3⟩
    · refine Or.inl ⟨?_, i, by omega, h1, h2⟩
      rw [u, if_pos e]
    · rw [u, v, if_neg e]
      by_cases q : q7 (n : Int) = c
      · rw [if_pos q, if_pos (decide_eq_true q)]
        by_cases l : q8 (n : Int) < a ∨ b < q8 (n : Int)
        · rw [if_pos l]
          exact Or.inl ⟨rfl, n, by omega, q, by omega⟩
        · rw [if_neg l]
          refine Or.inr ⟨by omega, by omega, fun i hi hq => ?_⟩
          by_cases z : i = n
          · rw [z]
            omega
          · exact e3 i (by omega) hq
      · rw [if_neg q, if_neg (fun w => q (of_decide_eq_true w))]
        refine Or.inr ⟨e, by omega, fun i hi hq => ?_⟩
        by_cases z : i = n
        · rw [z] at hq
          exact absurd hq q
        · exact e3 i (by omega) hq
/-- the sightings of both -/
def ft_T (s q7 q8 : Int → Int) (m : Nat) : Prop := m ≤ 8 ∧ ∀ i : Nat, i < m → q7 (i : Int) = 6 * s (92 + 3 * (i : Int) + 1) + s (92 + 3 * (i : Int)) ∧ q8 (i : Int) = s (92 + 3 * (i : Int) + 2) ∧ 0 ≤ s (92 + 3 * (i : Int)) ∧ s (92 + 3 * (i : Int)) ≤ 5 ∧ s (92 + 3 * (i : Int) + 2) ≤ 9999
def ft_xy (s : Int → Int) (i : Nat) : Int := s (92 + 3 * (i : Int)) + s (92 + 3 * (i : Int) + 1)
theorem ft_at {s q7 q8 : Int → Int} {m : Nat} (T : ft_T s q7 q8 m) {i : Nat} (hi : i < m) {x y : Int} (hx : 0 ≤ x ∧ x ≤ 5) : q7 (i : Int) = 6 * y + x ↔ (s (92 + 3 * (i : Int)) = x ∧ s (92 + 3 * (i : Int) + 1) = y) := by
  have t := T.2 i hi
  omega
/-- a sighting passed by: nothing fits -/
theorem ft_dead {f s : Int → Int} {m : Nat} (hm : m ≤ 8) {i : Nat} (hi : i < m) : ∀ (k : Nat) (x y t : Int) (S : Nat) (co ws : Int) (A : ft_A), S < 256 → S.testBit i = false → ft_xy s i < x + y → ft_m f s (m : Int) k x y t (S : Int) co ws A = A
  | 0, _, _, _, _, _, _, _, _, _, _ => rfl
  | k + 1, x, y, t, S, co, ws, A, hS, hb, hl => by
    have key : ∀ a b : Int, ∃ S2 : Nat, S2 < 256 ∧ S2.testBit i = false ∧ ov_or (S : Int) (ft_b s x y a b (Int.toNat (m : Int))) = (S2 : Int) := fun a b => by
      have l := ft_B_lt (P := ft_P s x y a b) m
      have l2 := ft_p2 m hm
      refine ⟨S ||| ft_B (ft_P s x y a b) m, Nat.or_lt_two_pow (n := 8) hS (by omega), ?_, ?_⟩
      · rw [Nat.testBit_or, hb, ft_B_t]
        have np : ft_P s x y a b i = false := decide_eq_false (fun q => by
          unfold ft_xy at hl
          omega)
        rw [np, Bool.and_false]
        rfl
      · rw [show Int.toNat (m : Int) = m by omega, ft_b_B m hm]
        exact ft_or (by omega) (by omega)
    have go : ∀ (w : Int) (co2 : Int) (B : ft_A), ft_mg f s (m : Int) (ft_m f s (m : Int) k) x y t (S : Int) co2 ws w B = B := fun w co2 B => by
      unfold ft_mg
      by_cases c : ov_cgi f x y w = 1
      · rw [if_pos c]
        obtain ⟨S2, s1, s2, s3⟩ := key t (t + ov_wm f (6 * y + x) w t)
        rw [s3]
        exact ft_dead hm hi k _ _ _ S2 _ _ B s1 s2 (by omega)
      · rw [if_neg c]
    show (if x = f 0 - 1 ∧ y = f 1 - 1 then _ else _) = A
    by_cases hq : x = f 0 - 1 ∧ y = f 1 - 1
    · rw [if_pos hq]
      obtain ⟨S2, s1, s2, s3⟩ := key t 2000000000
      rw [s3]
      refine (ft_fm_0 (fun e => ?_)).symm
      rw [(ft_shl m (by omega)).1] at e
      have p := Nat.one_le_two_pow (n := m)
      have e2 : S2 = 2 ^ m - 1 := by omega
      rw [e2, Nat.testBit_two_pow_sub_one, decide_eq_true hi] at s2
      exact absurd s2 (by decide)
    · rw [if_neg hq, go 0, go 1]
/-- both counts alike -/
def ft_R (A B : ft_A) : Prop := A.1 = B.1 ∧ 0 ≤ B.1 ∧ (A.1 = 0 → A.2.2 = -1) ∧ (¬ A.1 = 0 → A.2.1 = B.2.1 ∧ A.2.2 = B.2.2)
theorem ft_m1 (x : Int) (y : Int) : ov_land (-1) (ov_lor x y) = ov_lor x y := by
  unfold ov_land ov_lor
  rw [Int64.ofInt_toInt]
  congr 1
  apply Int64.toBitVec_inj.mp
  rw [Int64.toBitVec_and, show (Int64.ofInt (-1)).toBitVec = BitVec.allOnes 64 by decide]
  exact BitVec.allOnes_and
section
variable {f r0 r1 r2 r3 r4 r5 r6 r7 : Int → Int}
theorem ft_eq (K : tw_TB f r0 r1 r2 r3 r4 r5 r6 r7) (W : ov_WT f) (O : ov_OKf (r0, r1, r2, r3, r4, r6, r7)) {s q7 q8 : Int → Int} {m : Nat} (T : ft_T s q7 q8 m) : ∀ (k : Nat) (x y t : Int) (S wn : Nat) (co met : Int) (A B : ft_A), 0 ≤ x → x < f 0 → 0 ≤ y → y < f 1 → f 0 - 1 - x + (f 1 - 1 - y) < (k : Int) → 0 ≤ t → t + 100 * (k : Int) ≤ 1000000 → (∀ i, S.testBit i = true → i < m ∧ ft_xy s i < x + y) → met = ft_n S.testBit m → (wn : Int) < ((2 ^ (x + y).toNat : Nat) : Int) → ft_R A B → ft_R (ft_c (r0, r1, r2, r3, r4, r6, r7) q7 q8 (m : Int) k (6 * y + x) t (x + y) (wn : Int) (ov_lor co (ov_lshl 1 (6 * y + x))) met A) (ft_m f s (m : Int) k x y t (S : Int) co (wn : Int) B)
  | 0, x, y, t, S, wn, co, met, A, B, x0, x1, y0, y1, hk, t0, t1, hS, hm, hw, R => absurd hk (by omega)
  | k + 1, x, y, t, S, wn, co, met, A, B, x0, x1, y0, y1, hk, t0, t1, hS, hm, hw, R => by
    have bb := K.2.2.2.2.2
    have m8 := T.1
    have tm : Int.toNat (m : Int) = m := by omega
    have sl : S < 256 := by
      have u := Nat.lt_pow_two_of_testBit (n := m) S (fun i hi => by
        cases e : S.testBit i
        · rfl
        · exact absurd (hS i e).1 (by omega))
      have v := ft_p2 m m8
      omega
    have hom := ov_TE_hm K (x := x) (y := y) ⟨x0, x1⟩ ⟨y0, y1⟩
    have key : ∀ a b b2 : Int, (b2 = b ∨ (9999 ≤ b ∧ 9999 ≤ b2)) → ∃ S2 : Nat, S2 < 256 ∧ ov_or (S : Int) (ft_b s x y a b2 (Int.toNat (m : Int))) = (S2 : Int) ∧ (∀ i, S2.testBit i = true → i < m ∧ ft_xy s i < x + y + 1) ∧ ((ft_w q7 q8 (6 * y + x) a b m = -1 ∧ ∃ i : Nat, i < m ∧ S2.testBit i = false ∧ ft_xy s i < x + y + 1) ∨ (¬ ft_w q7 q8 (6 * y + x) a b m = -1 ∧ ft_n S2.testBit m = met + ft_w q7 q8 (6 * y + x) a b m)) := fun a b b2 hb => by
      have l := ft_B_lt (P := ft_P s x y a b2) m
      have l2 := ft_p2 m m8
      have tb : ∀ i, (S ||| ft_B (ft_P s x y a b2) m).testBit i = (S.testBit i || (decide (i < m) && ft_P s x y a b2 i)) := fun i => by rw [Nat.testBit_or, ft_B_t]
      have pt : ∀ i, i < m → (ft_P s x y a b2 i = true ↔ (q7 (i : Int) = 6 * y + x ∧ a ≤ q8 (i : Int) ∧ q8 (i : Int) ≤ b)) := fun i hi => by
        have t := T.2 i hi
        have at_ := ft_at T hi (x := x) (y := y) ⟨x0, by omega⟩
        unfold ft_P
        rw [decide_eq_true_eq, at_]
        constructor
        · rintro ⟨p1, p2, p3, p4⟩
          exact ⟨⟨p1, p2⟩, by omega, by omega⟩
        · rintro ⟨⟨p1, p2⟩, p3, p4⟩
          exact ⟨p1, p2, by omega, by omega⟩
      refine ⟨S ||| ft_B (ft_P s x y a b2) m, Nat.or_lt_two_pow (n := 8) sl (by omega), ?_, ?_, ?_⟩
      · rw [tm, ft_b_B m m8]
        exact ft_or (by omega) (by omega)
      · intro i hi
        rw [tb] at hi
        cases e : S.testBit i
        · rw [e, Bool.false_or, Bool.and_eq_true, decide_eq_true_eq] at hi
          have p := (pt i hi.1).1 hi.2
          have at_ := (ft_at T hi.1 (x := x) (y := y) ⟨x0, by omega⟩).1 p.1
          refine ⟨hi.1, ?_⟩
          unfold ft_xy
          omega
        · have := hS i e
          exact ⟨this.1, by omega⟩
      · rcases ft_w_n (q7 := q7) (q8 := q8) (c := 6 * y + x) (a := a) (b := b) m with ⟨e, i, hi, h1, h2⟩ | ⟨e, e2, e3⟩
        · have at_ := (ft_at T hi (x := x) (y := y) ⟨x0, by omega⟩).1 h1
          refine Or.inl ⟨e, i, hi, ?_, ?_⟩
          · rw [tb]
            have n1 : S.testBit i = false := by
              cases z : S.testBit i
              · rfl
              · have := hS i z
                unfold ft_xy at this
                omega
            have n2 : ft_P s x y a b2 i = false := by
              cases z : ft_P s x y a b2 i
              · rfl
              · exact absurd ((pt i hi).1 z).2 h2
            rw [n1, n2, Bool.and_false]
            rfl
          · unfold ft_xy
            omega
        · refine Or.inr ⟨e, ?_⟩
          rw [e2, hm, ← ft_n_or (p := S.testBit) (q := fun i => decide (q7 (i : Int) = 6 * y + x)) m (fun i hi p q => by
            have a1 := hS i p
            have a2 := (ft_at T hi (x := x) (y := y) ⟨x0, by omega⟩).1 (of_decide_eq_true q)
            unfold ft_xy at a1
            omega)]
          refine ft_n_cg m (fun i hi => ?_)
          show (S ||| ft_B (ft_P s x y a b2) m).testBit i = (S.testBit i || decide (q7 (i : Int) = 6 * y + x))
          have e9 : ft_P s x y a b2 i = decide (q7 (i : Int) = 6 * y + x) := by
            cases z : ft_P s x y a b2 i
            · refine (decide_eq_false (fun q => ?_)).symm
              have u := (pt i hi).2 ⟨q, e3 i hi q⟩
              rw [z] at u
              exact absurd u (by decide)
            · exact (decide_eq_true ((pt i hi).1 z).1).symm
          rw [tb, decide_eq_true hi, Bool.true_and, e9]
    by_cases hq : x = f 0 - 1 ∧ y = f 1 - 1
    · show ft_R (if 6 * y + x = ov_hmf (r0, r1, r2, r3, r4, r6, r7) then _ else _) (if x = f 0 - 1 ∧ y = f 1 - 1 then _ else _)
      rw [if_pos (hom.2 hq), if_pos hq]
      obtain ⟨S2, s1, s2, s3, s4⟩ := key t 2147483647 2000000000 (Or.inr ⟨by decide, by decide⟩)
      have fu := ft_full (S := S2) (m := m) (fun i hi => (s3 i hi).1)
      have p := Nat.one_le_two_pow (n := m)
      rw [s2, tm]
      unfold ft_lf ft_fm
      rw [(ft_shl m (by omega)).1]
      rcases s4 with ⟨e, i, i1, i2, i3⟩ | ⟨e, e2⟩
      · rw [if_neg (fun q => q.1 e), if_neg (fun q => by
          have e2 : S2 = 2 ^ m - 1 := by omega
          rw [e2, Nat.testBit_two_pow_sub_one, decide_eq_true i1] at i2
          exact absurd i2 (by decide))]
        exact R
      · by_cases c : met + ft_w q7 q8 (6 * y + x) t 2147483647 m = (m : Int)
        · have e3 : S2 = 2 ^ m - 1 := fu.2 (e2.trans c)
          rw [if_pos ⟨e, c⟩, if_pos (show ((S2 : Nat) : Int) = ((2 ^ m : Nat) : Int) - 1 by omega)]
          obtain ⟨R1, R2, R3, R4⟩ := R
          refine ⟨?_, ?_, fun z => ?_, fun z => ?_⟩
          · show A.1 + 1 = B.1 + 1
            omega
          · show 0 ≤ B.1 + 1
            omega
          · have z2 : A.1 + 1 = 0 := z
            omega
          · show (if A.1 = 0 then (wn : Int) else A.2.1) = (if B.1 = 0 then (wn : Int) else B.2.1) ∧ ov_land A.2.2 (ov_lor co (ov_lshl 1 (6 * y + x))) = (if B.1 = 0 then ov_lor co (ov_lshl 1 (6 * y + x)) else ov_land B.2.2 (ov_lor co (ov_lshl 1 (6 * y + x))))
            by_cases z0 : A.1 = 0
            · rw [if_pos z0, if_pos (by omega), if_pos (by omega), R3 z0, ft_m1]
              exact ⟨rfl, rfl⟩
            · have r4 := R4 z0
              rw [if_neg z0, if_neg (by omega), if_neg (by omega), r4.1, r4.2]
              exact ⟨rfl, rfl⟩
        · rw [if_neg (fun q => c q.2), if_neg (fun q => by
            have e3 : S2 = 2 ^ m - 1 := by omega
            exact c (e2.symm.trans (fu.1 e3)))]
          exact R
    · have nh : ¬ 6 * y + x = ov_hmf (r0, r1, r2, r3, r4, r6, r7) := fun v => hq (hom.1 v)
      have on := ov_TE_on K (x := x) (y := y) (by omega) (by omega)
      have step : ∀ (w : Int) (A B : ft_A), (w = 0 ∨ w = 1) → ft_R A B → ft_R (ft_g (r0, r1, r2, r3, r4, r6, r7) q7 q8 (m : Int) (ft_c (r0, r1, r2, r3, r4, r6, r7) q7 q8 (m : Int) k) (6 * y + x) t (x + y) (wn : Int) (ov_lor co (ov_lshl 1 (6 * y + x))) met w A) (ft_mg f s (m : Int) (ft_m f s (m : Int) k) x y t (S : Int) (ov_lor co (ov_lshl 1 (6 * y + x))) (wn : Int) w B) := fun w A B hw01 R => by
        have ob : ov_ob (r0, r1, r2, r3, r4, r6, r7) (6 * y + x) w = ov_cgi f x y w := by
          rcases hw01 with e | e
          · rw [e, ov_ob0]
            exact on.1
          · rw [e, ov_ob1]
            exact on.2
        have lv : ft_lv (r0, r1, r2, r3, r4, r6, r7) (6 * y + x) w t = t + ov_wm f (6 * y + x) w t := congrArg (fun v => t + v) (ov_TE_wt K W (c := 6 * y + x) (way := w) (s := t) ⟨by omega, by omega⟩)
        have wr := ov_wtv_rng (kd := r1 (6 * y + x)) (way := w) (t := t) (O.1 (6 * y + x)) (O.2.1 (6 * y + x)) (O.2.2.1 (6 * y + x))
        have we : ov_wtv (r1 (6 * y + x)) (r2 (6 * y + x)) (r3 (6 * y + x)) (r4 (6 * y + x)) w t = ov_wm f (6 * y + x) w t := ov_TE_wt K W (c := 6 * y + x) (way := w) (s := t) ⟨by omega, by omega⟩
        have wr2 : 0 ≤ ov_wm f (6 * y + x) w t ∧ ov_wm f (6 * y + x) w t ≤ 60 := by
          rw [← we]
          exact wr
        have st : r6 0 = f 2 := K.2.2.2.1.1
        have sr : 0 ≤ r6 0 ∧ r6 0 ≤ 30 := O.2.2.2.1
        unfold ft_g ft_mg
        rw [ob, lv]
        by_cases c : ov_cgi f x y w = 1
        · rw [if_pos c, if_pos c, tm]
          obtain ⟨S2, s1, s2, s3, s4⟩ := key t (t + ov_wm f (6 * y + x) w t) (t + ov_wm f (6 * y + x) w t) (Or.inl rfl)
          rw [tm] at s2
          rw [s2]
          rcases s4 with ⟨e, i, i1, i2, i3⟩ | ⟨e, e2⟩
          · rw [if_pos e, ft_dead m8 i1 k _ _ _ S2 _ _ B s1 i2 (by omega)]
            exact R
          · rw [if_neg e]
            have nx : ov_nxc (6 * y + x) w = 6 * (y + w) + (x + 1 - w) := by
              rcases hw01 with z | z
              · rw [z]
                show 6 * y + x + 1 = _
                omega
              · rw [z]
                show 6 * y + x + 6 = _
                omega
            have sp := ((ov_cgi_sp f x y w).2 c).1
            have xy : x + y < 14 := by omega
            have pw : (2 : Nat) ^ (x + y).toNat ≤ 8192 := by
              have h : ∀ n : Nat, n < 14 → (2 : Nat) ^ n ≤ 8192 := by decide
              exact h _ (by omega)
            have sh := ft_shl (x + y).toNat (by omega)
            rw [show (((x + y).toNat : Nat) : Int) = x + y by omega] at sh
            have p2 : (2 : Nat) ^ (x + y + 1).toNat = 2 ^ (x + y).toNat * 2 := by
              rw [show (x + y + 1).toNat = (x + y).toNat + 1 by omega, Nat.pow_succ]
            obtain ⟨v, v1, v2, v3⟩ : ∃ v : Nat, ov_lor (wn : Int) (ov_lshl (ov_w w) (x + y)) = (v : Int) ∧ ov_or (wn : Int) (ov_shl w (x + y)) = (v : Int) ∧ v < 2 ^ (x + y + 1).toNat := by
              rcases hw01 with z | z
              · refine ⟨wn ||| 0, ?_, ?_, ?_⟩
                · rw [z, sh.2.2.2]
                  exact ft_lor (b := 0) (by omega) (by decide)
                · rw [z, sh.2.1]
                  exact ft_or (b := 0) (by omega) (by decide)
                · rw [Nat.or_zero, p2]
                  omega
              · refine ⟨wn ||| 2 ^ (x + y).toNat, ?_, ?_, ?_⟩
                · rw [z, sh.2.2.1]
                  exact ft_lor (by omega) (by omega)
                · rw [z, sh.1]
                  exact ft_or (by omega) (by omega)
                · have p0 := Nat.one_le_two_pow (n := (x + y).toNat)
                  exact Nat.or_lt_two_pow (by omega) (by omega)
            rw [v1, v2, nx]
            show ft_R (ft_c (r0, r1, r2, r3, r4, r6, r7) q7 q8 (m : Int) k (6 * (y + w) + (x + 1 - w)) (t + ov_wm f (6 * y + x) w t + r6 0) (x + y + 1) (v : Int) _ _ A) _
            rw [st, show x + y + 1 = x + 1 - w + (y + w) by omega]
            refine ft_eq K W O T k (x + 1 - w) (y + w) _ S2 v _ _ A B ?_ ?_ ?_ ?_ ?_ ?_ ?_ (fun i hi => ?_) ?_ ?_ R
            · omega
            · rcases hw01 with z | z
              · have := sp.1 z
                omega
              · omega
            · omega
            · rcases hw01 with z | z
              · omega
              · have := sp.2 (by omega)
                omega
            · omega
            · omega
            · omega
            · have := s3 i hi
              exact ⟨this.1, by omega⟩
            · rw [e2]
            · rw [show x + 1 - w + (y + w) = x + y + 1 by omega]
              omega
        · rw [if_neg c, if_neg c]
          exact R
      show ft_R (if 6 * y + x = ov_hmf (r0, r1, r2, r3, r4, r6, r7) then _ else _) (if x = f 0 - 1 ∧ y = f 1 - 1 then _ else _)
      rw [if_neg nh, if_neg hq]
      exact step 1 _ _ (Or.inr rfl) (step 0 _ _ (Or.inl rfl) R)
end
/-! rows of the corners that all ways have -/
def fb (v : Int) (j : Nat) : Bool := (Int64.ofInt v).toBitVec.getLsbD j
theorem fb_lor (a b : Int) (j : Nat) : fb (ov_lor a b) j = (fb a j || fb b j) := by
  unfold fb ov_lor
  rw [Int64.ofInt_toInt, Int64.toBitVec_or, BitVec.getLsbD_or]
theorem fb_land (a b : Int) (j : Nat) : fb (ov_land a b) j = (fb a j && fb b j) := by
  unfold fb ov_land
  rw [Int64.ofInt_toInt, Int64.toBitVec_and, BitVec.getLsbD_and]
theorem fb_shr (a : Int) {n j : Nat} (hn : n < 64) (hj : n + j < 64) : fb (ov_lshr a (n : Int)) j = fb a (n + j) := by
  unfold fb ov_lshr
  rw [Int64.ofInt_toInt, kb_sh n hn, Int64.toBitVec_shiftRight, BitVec.sshiftRight_eq', kb_sm n hn, BitVec.getLsbD_sshiftRight, if_pos hj, decide_eq_false (show ¬ 64 ≤ j by omega)]
  rfl
theorem fb_shl (a : Int) {n j : Nat} (hn : n < 64) (hj : j < 64) : fb (ov_lshl a (n : Int)) j = (!decide (j < n) && fb a (j - n)) := by
  unfold fb ov_lshl
  rw [Int64.ofInt_toInt, kb_sh n hn, Int64.toBitVec_shiftLeft, BitVec.shiftLeft_eq', kb_sm n hn, BitVec.getLsbD_shiftLeft, decide_eq_true hj, Bool.true_and]
theorem fb_63 : ∀ j, j < 64 → fb 63 j = decide (j < 6) := by decide +kernel
theorem fb_1 : ∀ j, j < 64 → fb 1 j = decide (j = 0) := by decide +kernel
theorem fb_0 : ∀ j, j < 64 → fb 0 j = false := by decide +kernel
theorem fb_ext {a b : Int} (ha : (Int64.ofInt a).toInt = a) (hb : (Int64.ofInt b).toInt = b) (h : ∀ j, j < 64 → fb a j = fb b j) : a = b := by
  have e : Int64.ofInt a = Int64.ofInt b := by
    apply Int64.toBitVec_inj.mp
    apply BitVec.eq_of_getLsbD_eq
    intro i hi
    exact h i hi
  rw [← ha, e, hb]
theorem fb_c (a b : Int) : (Int64.ofInt (ov_lor a b)).toInt = ov_lor a b := by
  unfold ov_lor
  rw [Int64.ofInt_toInt]
theorem fb_kb {C : Int} {n : Nat} (hn : n < 54) : ov_land (ov_lshr C (n : Int)) 1 = 1 ↔ fb C n = true := by
  have e : ov_land (ov_lshr C (n : Int)) 1 = if (Int64.ofInt C).toBitVec.getLsbD n = true then 1 else 0 := kb_val hn
  rw [e]
  show _ ↔ (Int64.ofInt C).toBitVec.getLsbD n = true
  by_cases q : (Int64.ofInt C).toBitVec.getLsbD n = true
  · rw [if_pos q]
    exact ⟨fun _ => q, fun _ => rfl⟩
  · rw [if_neg q]
    exact ⟨fun h => absurd h (by decide), fun h => absurd h q⟩
def ft_cr (C fr : Int) : Nat → Int
  | 0 => 0
  | n + 1 => ov_lor (ft_cr C fr n) (ov_lshl (ov_land (ov_lshr C ((fr + (n : Int)) * 6)) 63) (8 * (fr + (n : Int) - fr)))
def ft_cw (w k : Int) : Int := if w = 2 then 8 * (k / 6) + k % 6 else k % 6
def ft_cm (C w : Int) : Nat → Int
  | 0 => 0
  | k + 1 => ov_lor (ft_cm C w k) (if ov_land (ov_lshr C (k : Int)) 1 = 1 ∧ ((k : Int) / 6 < 8 ↔ w = 2) then ov_lshl 1 (ft_cw w (k : Int)) else 0)
theorem ft_cr_s {C fr y : Int} (hy : fr ≤ y) {v : Int} (e : v = ft_cr C fr (Int.toNat (y - fr))) : ov_lor v (ov_lshl (ov_land (ov_lshr C (y * 6)) 63) (8 * (y - fr))) = ft_cr C fr (Int.toNat (y + 1 - fr)) := by
  rw [show Int.toNat (y + 1 - fr) = Int.toNat (y - fr) + 1 by omega, e]
  show _ = ov_lor (ft_cr C fr (Int.toNat (y - fr))) (ov_lshl (ov_land (ov_lshr C ((fr + ((Int.toNat (y - fr) : Nat) : Int)) * 6)) 63) (8 * (fr + ((Int.toNat (y - fr) : Nat) : Int) - fr)))
  rw [show fr + ((Int.toNat (y - fr) : Nat) : Int) = y by omega]
theorem ft_cm_s {C w k : Int} (hk : 0 ≤ k) {v u : Int} (e : v = ft_cm C w (Int.toNat k)) (h : (ov_land (ov_lshr C k) 1 = 1 ∧ (k / 6 < 8 ↔ w = 2)) ∧ (∃ q : Int, u = ov_lshl 1 q ∧ q = ft_cw w k) ∨ ¬ (ov_land (ov_lshr C k) 1 = 1 ∧ (k / 6 < 8 ↔ w = 2)) ∧ u = 0) : ov_lor v u = ft_cm C w (Int.toNat (k + 1)) := by
  rw [show Int.toNat (k + 1) = Int.toNat k + 1 by omega, e]
  show _ = ov_lor (ft_cm C w (Int.toNat k)) (if ov_land (ov_lshr C ((Int.toNat k : Nat) : Int)) 1 = 1 ∧ (((Int.toNat k : Nat) : Int) / 6 < 8 ↔ w = 2) then ov_lshl 1 (ft_cw w ((Int.toNat k : Nat) : Int)) else 0)
  rw [show ((Int.toNat k : Nat) : Int) = k by omega]
  rcases h with ⟨h, q, h2, h3⟩ | ⟨h, h2⟩
  · rw [if_pos h, h2, h3]
  · rw [if_neg h, h2]
theorem fb_cr {C : Int} {fr : Nat} : ∀ n : Nat, fr + n ≤ 9 → n ≤ 8 → ∀ j, j < 64 → (fb (ft_cr C (fr : Int) n) j = true ↔ ∃ y : Nat, y < n ∧ 8 * y ≤ j ∧ j < 8 * y + 6 ∧ fb C (6 * (fr + y) + (j - 8 * y)) = true)
  | 0, _, _, j, hj => by
    show fb 0 j = true ↔ _
    rw [fb_0 j hj]
    exact ⟨fun h => absurd h (by decide), fun ⟨y, h, _⟩ => absurd h (by omega)⟩
  | n + 1, h9, h8, j, hj => by
    have ih := fb_cr (C := C) (fr := fr) n (by omega) (by omega) j hj
    show fb (ov_lor (ft_cr C (fr : Int) n) (ov_lshl (ov_land (ov_lshr C (((fr : Int) + (n : Int)) * 6)) 63) (8 * ((fr : Int) + (n : Int) - (fr : Int))))) j = true ↔ _
    rw [fb_lor, Bool.or_eq_true, ih, show 8 * ((fr : Int) + (n : Int) - (fr : Int)) = ((8 * n : Nat) : Int) by omega, show ((fr : Int) + (n : Int)) * 6 = ((6 * (fr + n) : Nat) : Int) by omega, fb_shl _ (by omega) hj, fb_land, fb_63 _ (by omega)]
    constructor
    · rintro (⟨y, h1, h2, h3, h4⟩ | h)
      · exact ⟨y, by omega, h2, h3, h4⟩
      · rw [Bool.and_eq_true, Bool.and_eq_true, decide_eq_true_eq, Bool.not_eq_true', decide_eq_false_iff_not] at h
        obtain ⟨h1, h2, h3⟩ := h
        rw [fb_shr C (by omega) (by omega)] at h2
        exact ⟨n, by omega, by omega, by omega, h2⟩
    · rintro ⟨y, h1, h2, h3, h4⟩
      by_cases q : y = n
      · rw [q] at h2 h3 h4
        refine Or.inr ?_
        rw [Bool.and_eq_true, Bool.and_eq_true, decide_eq_true_eq, Bool.not_eq_true', decide_eq_false_iff_not, fb_shr C (by omega) (by omega)]
        exact ⟨by omega, h4, by omega⟩
      · exact Or.inl ⟨y, by omega, h2, h3, h4⟩
theorem ft_cw_n (w : Int) (k : Nat) : ∃ e : Nat, (e : Int) = ft_cw w (k : Int) ∧ (w = 2 → e = 8 * (k / 6) + k % 6) ∧ (¬ w = 2 → e = k % 6) := by
  by_cases q : w = 2
  · refine ⟨8 * (k / 6) + k % 6, ?_, fun _ => rfl, fun h => absurd q h⟩
    unfold ft_cw
    rw [if_pos q]
    omega
  · refine ⟨k % 6, ?_, fun h => absurd h q, fun _ => rfl⟩
    unfold ft_cw
    rw [if_neg q]
    omega
theorem fb_cm {C w : Int} : ∀ n : Nat, n ≤ 54 → ∀ j, j < 64 → (fb (ft_cm C w n) j = true ↔ ∃ k : Nat, k < n ∧ fb C k = true ∧ (k / 6 < 8 ↔ w = 2) ∧ (j : Int) = ft_cw w (k : Int))
  | 0, _, j, hj => by
    show fb 0 j = true ↔ _
    rw [fb_0 j hj]
    exact ⟨fun h => absurd h (by decide), fun ⟨y, h, _⟩ => absurd h (by omega)⟩
  | n + 1, h9, j, hj => by
    have ih := fb_cm (C := C) (w := w) n (by omega) j hj
    have kb := fb_kb (C := C) (n := n) (by omega)
    have dv : ((n : Int) / 6 < 8 ↔ w = 2) ↔ (n / 6 < 8 ↔ w = 2) := by
      have : (n : Int) / 6 < 8 ↔ n / 6 < 8 := by omega
      rw [this]
    obtain ⟨e, e1, e2, e3⟩ := ft_cw_n w n
    have el : (n / 6 < 8 ↔ w = 2) → e < 64 := fun hh => by
      by_cases q : w = 2
      · have h1 := e2 q
        have h2 := hh.2 q
        omega
      · have h1 := e3 q
        omega
    have v : fb (if ov_land (ov_lshr C (n : Int)) 1 = 1 ∧ ((n : Int) / 6 < 8 ↔ w = 2) then ov_lshl 1 (ft_cw w (n : Int)) else 0) j = true ↔ ((fb C n = true ∧ (n / 6 < 8 ↔ w = 2)) ∧ j = e) := by
      by_cases c : ov_land (ov_lshr C (n : Int)) 1 = 1 ∧ ((n : Int) / 6 < 8 ↔ w = 2)
      · have c2 : fb C n = true ∧ (n / 6 < 8 ↔ w = 2) := ⟨kb.1 c.1, dv.1 c.2⟩
        rw [if_pos c, ← e1, fb_shl _ (el c2.2) hj, fb_1 _ (by omega), Bool.and_eq_true, decide_eq_true_eq, Bool.not_eq_true', decide_eq_false_iff_not]
        clear kb dv c e1 e2 e3 ih el
        exact ⟨fun h => ⟨c2, by omega⟩, fun ⟨_, h⟩ => by omega⟩
      · rw [if_neg c, fb_0 j hj]
        exact ⟨fun h => absurd h (by decide), fun h => absurd ⟨kb.2 h.1.1, dv.2 h.1.2⟩ c⟩
    show fb (ov_lor (ft_cm C w n) (if ov_land (ov_lshr C (n : Int)) 1 = 1 ∧ ((n : Int) / 6 < 8 ↔ w = 2) then ov_lshl 1 (ft_cw w (n : Int)) else 0)) j = true ↔ _
    rw [fb_lor, Bool.or_eq_true, ih, v]
    constructor
    · rintro (⟨k, h1, h2, h3, h4⟩ | ⟨⟨h1, h2⟩, h3⟩)
      · exact ⟨k, by omega, h2, h3, h4⟩
      · exact ⟨n, by omega, h1, h2, by omega⟩
    · rintro ⟨k, h1, h2, h3, h4⟩
      by_cases q : k = n
      · rw [q] at h2 h3 h4
        exact Or.inr ⟨⟨h2, h3⟩, by omega⟩
      · exact Or.inl ⟨k, by omega, h2, h3, h4⟩
theorem fb_cr_c (C fr : Int) : ∀ n : Nat, (Int64.ofInt (ft_cr C fr n)).toInt = ft_cr C fr n
  | 0 => by
    show (Int64.ofInt 0).toInt = 0
    decide
  | n + 1 => fb_c _ _
theorem fb_cm_c (C w : Int) : ∀ n : Nat, (Int64.ofInt (ft_cm C w n)).toInt = ft_cm C w n
  | 0 => by
    show (Int64.ofInt 0).toInt = 0
    decide
  | n + 1 => fb_c _ _
theorem ft_rows (C : Int) : ft_cr C 0 8 = ft_cm C 2 54 ∧ ft_cr C 8 1 = ft_cm C 3 54 := by
  constructor
  · refine fb_ext (fb_cr_c C _ _) (fb_cm_c C _ _) (fun j hj => ?_)
    have a := fb_cr (C := C) (fr := 0) 8 (by omega) (by omega) j hj
    have b := fb_cm (C := C) (w := 2) 54 (by omega) j hj
    have ab : fb (ft_cr C 0 8) j = true ↔ fb (ft_cm C 2 54) j = true := by
      refine a.trans (Iff.trans ?_ b.symm)
      constructor
      · rintro ⟨y, h1, h2, h3, h4⟩
        refine ⟨6 * (0 + y) + (j - 8 * y), by omega, h4, ⟨fun _ => rfl, fun _ => by omega⟩, ?_⟩
        obtain ⟨e, e1, e2, -⟩ := ft_cw_n 2 (6 * (0 + y) + (j - 8 * y))
        rw [← e1, e2 rfl]
        omega
      · rintro ⟨k, h1, h2, h3, h4⟩
        have k8 := h3.2 rfl
        obtain ⟨e, e1, e2, -⟩ := ft_cw_n 2 k
        rw [← e1, e2 rfl] at h4
        refine ⟨k / 6, by omega, by omega, by omega, ?_⟩
        rw [show 6 * (0 + k / 6) + (j - 8 * (k / 6)) = k by omega]
        exact h2
    cases p : fb (ft_cr C 0 8) j
    · cases q : fb (ft_cm C 2 54) j
      · rfl
      · exact absurd (ab.2 q) (by rw [p]; decide)
    · exact (ab.1 p).symm
  · refine fb_ext (fb_cr_c C _ _) (fb_cm_c C _ _) (fun j hj => ?_)
    have a := fb_cr (C := C) (fr := 8) 1 (by omega) (by omega) j hj
    have b := fb_cm (C := C) (w := 3) 54 (by omega) j hj
    have ab : fb (ft_cr C 8 1) j = true ↔ fb (ft_cm C 3 54) j = true := by
      refine a.trans (Iff.trans ?_ b.symm)
      constructor
      · rintro ⟨y, h1, h2, h3, h4⟩
        refine ⟨6 * (8 + y) + (j - 8 * y), by omega, h4, ⟨fun _ => by omega, fun h => absurd h (by decide)⟩, ?_⟩
        obtain ⟨e, e1, -, e3⟩ := ft_cw_n 3 (6 * (8 + y) + (j - 8 * y))
        rw [← e1, e3 (by decide)]
        omega
      · rintro ⟨k, h1, h2, h3, h4⟩
        have k8 : ¬ k / 6 < 8 := fun h => absurd (h3.1 h) (by decide)
        obtain ⟨e, e1, -, e3⟩ := ft_cw_n 3 k
        rw [← e1, e3 (by decide)] at h4
        refine ⟨0, by omega, by omega, by omega, ?_⟩
        rw [show 6 * (8 + 0) + (j - 8 * 0) = k by omega]
        exact h2
    cases p : fb (ft_cr C 8 1) j
    · cases q : fb (ft_cm C 3 54) j
      · rfl
      · exact absurd (ab.2 q) (by rw [p]; decide)
    · exact (ab.1 p).symm
/-! the answers -/
def ft_ac (A : ft_A) (w : Int) : Int := if 0 ≤ w ∧ w ≤ 3 then (if w = 0 then A.1 else if A.1 = 0 then -1 else if w = 1 then A.2.1 else if w = 2 then ft_cr A.2.2 0 8 else ft_cr A.2.2 8 1) else -1
def ft_am (A : ft_A) (w : Int) : Int := if 0 ≤ w ∧ w ≤ 3 then (if w = 0 then A.1 else if A.1 = 0 then -1 else if w = 1 then A.2.1 else ft_cm A.2.2 w 54) else -1
theorem ft_ans {A B : ft_A} (R : ft_R A B) (w : Int) : ft_ac A w = ft_am B w := by
  obtain ⟨R1, R2, R3, R4⟩ := R
  unfold ft_ac ft_am
  by_cases q : 0 ≤ w ∧ w ≤ 3
  · rw [if_pos q, if_pos q]
    by_cases q0 : w = 0
    · rw [if_pos q0, if_pos q0]
      exact R1
    · rw [if_neg q0, if_neg q0]
      by_cases z : A.1 = 0
      · rw [if_pos z, if_pos (by omega)]
      · have r := R4 z
        rw [if_neg z, if_neg (show ¬ B.1 = 0 by omega), r.1, r.2]
        by_cases q1 : w = 1
        · rw [if_pos q1, if_pos q1]
        · rw [if_neg q1, if_neg q1]
          have f := ft_rows B.2.2
          by_cases q2 : w = 2
          · rw [if_pos q2, q2]
            exact f.1
          · rw [if_neg q2, show w = 3 by omega]
            exact f.2
  · rw [if_neg q, if_neg q]
def ft_fc (f : ov_TW) (q7 q8 : Int → Int) (n w : Int) : Int := ft_ac (ft_c f q7 q8 n 14 0 0 0 0 1 0 (0, 0, -1)) w
def ft_ff (f s : Int → Int) (n a b w : Int) : Int := ft_am (ft_m f s n 14 0 0 0 0 0 0 (0, a, b)) w
theorem ft_one : ov_lor 0 (ov_lshl 1 (6 * 0 + 0)) = 1 := by decide +kernel
theorem ft_fit {f r0 r1 r2 r3 r4 r5 r6 r7 s q7 q8 : Int → Int} {m : Nat} (K : tw_TB f r0 r1 r2 r3 r4 r5 r6 r7) (W : ov_WT f) (O : ov_OKf (r0, r1, r2, r3, r4, r6, r7)) (T : ft_T s q7 q8 m) (a b w : Int) : ft_fc (r0, r1, r2, r3, r4, r6, r7) q7 q8 (m : Int) w = ft_ff f s (m : Int) a b w := by
  have bb := K.2.2.2.2.2
  have e := ft_eq K W O T 14 0 0 0 0 0 0 0 (0, 0, -1) (0, a, b) (by decide) (by omega) (by decide) (by omega) (by omega) (by decide) (by decide) (fun i hi => by
    rw [Nat.zero_testBit] at hi
    exact absurd hi (by decide)) (by
    have z : ∀ n : Nat, ft_n (Nat.testBit 0) n = 0 := fun n => by
      induction n with
      | zero => rfl
      | succ n ih =>
        have h1 : (if Nat.testBit 0 n = true then (1 : Int) else 0) = 0 := if_neg (by rw [Nat.zero_testBit]; decide)
        have h2 : ft_n (Nat.testBit 0) (n + 1) = ft_n (Nat.testBit 0) n + (if Nat.testBit 0 n = true then (1 : Int) else 0) := rfl
        rw [h2, h1, ih, Int.add_zero]
    exact (z m).symm) (by decide) ⟨rfl, Int.le_refl 0, fun _ => rfl, fun h => absurd rfl h⟩
  rw [ft_one] at e
  exact ft_ans e w
theorem ft_g_id {f : ov_TW} {q7 q8 : Int → Int} {n c t k bits mask m w : Int} {G : Int → Int → Int → Int → Int → Int → ft_A → ft_A} {A : ft_A} (hG : ∀ a b c d e g B, G a b c d e g B = B) : ft_g f q7 q8 n G c t k bits mask m w A = A := by
  unfold ft_g
  rw [hG]
  (repeat' split) <;> rfl
theorem ft_c_end {f : ov_TW} {q7 q8 : Int → Int} {n c t k bits mask m x : Int} {A B : ft_A} {j j2 : Nat} (hj : j2 = j + 1) (hz : j = 0) (nh : ¬ c = ov_hmf f) (e : B = ft_u (ft_g f q7 q8 n (ft_c f q7 q8 n j) c t k bits mask m) x A) : B = ft_c f q7 q8 n j2 c t k bits mask m A := by
  have i : ∀ w B, ft_g f q7 q8 n (ft_c f q7 q8 n j) c t k bits mask m w B = B := fun w B => ft_g_id (fun a b c d e g B => by
    subst hz
    rfl)
  exact ft_c_n hj nh (e.trans ((ft_u_id i x).trans (ft_u_id i 2).symm))
theorem ft_p_m {n : Int} : ft_p (Int.toNat (13 - (n + 1))) ≤ ft_p (Int.toNat (13 - n)) ∧ (n < 13 → ft_p (Int.toNat (13 - n)) = ft_p (Int.toNat (13 - (n + 1))) + ft_p (Int.toNat (13 - (n + 1)))) ∧ 1 ≤ ft_p (Int.toNat (13 - (n + 1))) := by
  have p0 := ft_p_0 (Int.toNat (13 - (n + 1)))
  by_cases h : n < 13
  · have s := ft_p_s (k := Int.toNat (13 - n)) (by omega)
    rw [show Int.toNat (13 - n) - 1 = Int.toNat (13 - (n + 1)) by omega] at s
    exact ⟨by omega, fun _ => s, p0⟩
  · rw [show Int.toNat (13 - n) = Int.toNat (13 - (n + 1)) by omega]
    exact ⟨Int.le_refl _, fun q => absurd q h, p0⟩
theorem ft_p_x {x y : Int} : ft_p (Int.toNat (13 - x - y - 1)) ≤ ft_p (Int.toNat (13 - x - y)) ∧ (x + y < 13 → ft_p (Int.toNat (13 - x - y)) = ft_p (Int.toNat (13 - x - y - 1)) + ft_p (Int.toNat (13 - x - y - 1))) ∧ 1 ≤ ft_p (Int.toNat (13 - x - y - 1)) := by
  have m := ft_p_m (n := x + y)
  rw [show 13 - (x + y + 1) = 13 - x - y - 1 by omega, show 13 - (x + y) = 13 - x - y by omega] at m
  exact m
theorem ft_p_13 : ft_p (Int.toNat (13 - 0)) = 8192 := by decide +kernel
theorem ft_p_13m : ft_p (Int.toNat (13 - 0 - 0)) = 8192 := by decide +kernel
theorem ft_shb {n : Int} (h : 0 ≤ n ∧ n ≤ 8) : 1 ≤ ov_shl 1 n ∧ ov_shl 1 n ≤ 256 := by
  have s := (ft_shl (Int.toNat n) (by omega)).1
  rw [show ((Int.toNat n : Nat) : Int) = n by omega] at s
  have a := Nat.one_le_two_pow (n := Int.toNat n)
  have b := ft_p2 (Int.toNat n) (by omega)
  rw [s]
  omega
def ft_HM (r : Int → Int) : ft_A := (r 43, r 44, r 45)
theorem ft_lc (a : Int) : ov_lcmp a a = 0 := by
  have h : ¬ Int64.ofInt a < Int64.ofInt a := fun q => by
    rw [Int64.lt_iff_toInt_lt] at q
    omega
  unfold ov_lcmp lg_cmp
  (repeat' split) <;> simp_all
theorem ft_m_f {f s : Int → Int} {n x y t m co ws c2 : Int} {A B : ft_A} {j2 : Nat} {v : Int} (hj : 1 ≤ j2) (nh : x = f 0 - 1 ∧ y = f 1 - 1) (hc : c2 = ov_lor co (ov_lshl 1 (6 * y + x))) (hv : v = ov_or m (ft_b s x y t 2000000000 (Int.toNat n))) (e : B = ft_fm n v c2 ws A) : B = ft_m f s n j2 x y t m co ws A := ft_m_h hj nh hc (by rw [e, hv])
theorem ft_T_of {f q5 q6 q7 q8 : Int → Int} {n m : Int} (T : st_T f 0 n m q5 q6 q7 q8) (hm : 0 ≤ m ∧ m ≤ 8) : ft_T f q7 q8 (Int.toNat m) := by
  obtain ⟨-, -, -, d⟩ := T
  refine ⟨by omega, fun i hi => ?_⟩
  have t := d (i : Int) (by omega) (by omega)
  rw [show (0 : Int) + 93 + 3 * (i : Int) = 92 + 3 * (i : Int) + 1 by omega, show (0 : Int) + 92 + 3 * (i : Int) = 92 + 3 * (i : Int) by omega, show (0 : Int) + 94 + 3 * (i : Int) = 92 + 3 * (i : Int) + 2 by omega] at t
  exact ⟨t.1, t.2.1, t.2.2.1, t.2.2.2.1, t.2.2.2.2⟩
theorem ft_fit_s {f r0 r1 r2 r3 r4 r5 r6 r7 s q5 q6 q7 q8 : Int → Int} {n m : Int} (K : tw_TB f r0 r1 r2 r3 r4 r5 r6 r7) (W : ov_WT f) (O : ov_OKf (r0, r1, r2, r3, r4, r6, r7)) (T : st_T s 0 n m q5 q6 q7 q8) (hm : 0 ≤ m ∧ m ≤ 8) (a b w : Int) : ft_fc (r0, r1, r2, r3, r4, r6, r7) q7 q8 m w = ft_ff f s (s 59) a b w := by
  have e := ft_fit K W O (ft_T_of T hm) a b w
  have em : m = s 59 := T.2.1
  rw [show ((Int.toNat m : Nat) : Int) = m by omega] at e
  rw [← em]
  exact e

/-! small rows for the walks -/
theorem ov_hav {u : ov_U} {d : Nat} {M : ov_M} {pc : Nat} {ls : List (Nat × ov_V)} {st : List ov_V} {z : ov_Z} {h : ov_H} {Q : Option ov_V → ov_Z → ov_H → Prop} {a : Int} (k : ∀ w : Int, ov_g w → ov_R u d M pc ls (ov_i w :: st) z h Q) : ov_R u d M pc ls (ov_i a :: st) z h Q := ov_nrm (k _ (ov_w_g a))
theorem ov_havw {u : ov_U} {d : Nat} {M : ov_M} {pc : Nat} {ls : List (Nat × ov_V)} {st : List ov_V} {z : ov_Z} {h : ov_H} {Q : Option ov_V → ov_Z → ov_H → Prop} {a : Int} (k : ∀ w : Int, ov_g w → (ov_g a → w = a) → ov_R u d M pc ls (ov_i w :: st) z h Q) : ov_R u d M pc ls (ov_i a :: st) z h Q := ov_nrm (k _ (ov_w_g a) (fun g => ov_w_id g))
theorem ov_wl_g (a : Int) : ov_gl (ov_wl a) := by
  have h1 := Int64.le_toInt (Int64.ofInt a)
  have h2 := Int64.toInt_lt (Int64.ofInt a)
  unfold ov_wl
  constructor <;> omega
theorem ov_havl {u : ov_U} {d : Nat} {M : ov_M} {pc : Nat} {ls : List (Nat × ov_V)} {st : List ov_V} {z : ov_Z} {h : ov_H} {Q : Option ov_V → ov_Z → ov_H → Prop} {a : Int} (k : ∀ w : Int, ov_gl w → (ov_gl a → w = a) → ov_R u d M pc ls (ov_l w :: st) z h Q) : ov_R u d M pc ls (ov_l a :: st) z h Q := by
  have K := k _ (ov_wl_g a) (fun g => ov_toIntL g)
  intro hu p e s m args below meth c H locs cells slots lr n0 g0 C hRp hlocs hl
  have K := K hu p e s m args below meth c H locs cells slots lr n0 g0 C hRp hlocs hl
  simp only [List.map_cons, ov_tv, ov_wl, Int64.ofInt_toInt] at K ⊢
  exact K
theorem nk_0 {x : Int} : ov_nk 0 x := ⟨fun e => absurd e (by decide), fun e => absurd e (by decide)⟩
theorem nk_1 {x : Int} : ov_nk 1 x := ⟨fun e => absurd e (by decide), fun e => absurd e (by decide)⟩
theorem nk_2 {x : Int} : ov_nk 2 x := ⟨fun e => absurd e (by decide), fun e => absurd e (by decide)⟩
theorem nk_3 {x : Int} (hx : x = 0 ∨ x = 1) : ov_nk 3 x := ⟨fun _ => hx, fun e => absurd e (by decide)⟩
theorem nk_4 {x : Int} (hx : 0 ≤ x ∧ x ≤ 65535) : ov_nk 4 x := ⟨fun e => absurd e (by decide), fun _ => hx⟩
theorem ov_tm {a b : Int} (ha : 0 ≤ a) : Int.tmod a b = a % b := Int.tmod_eq_emod_of_nonneg ha
theorem ov_td {a b : Int} (ha : 0 ≤ a) : Int.tdiv a b = a / b := Int.tdiv_eq_ediv_of_nonneg ha
theorem ov_tmb {a b : Int} (ha : 0 ≤ a) (hb : 0 < b) : 0 ≤ Int.tmod a b ∧ Int.tmod a b < b := ⟨Int.tmod_nonneg _ ha, Int.tmod_lt_of_pos _ hb⟩
theorem ov_tmg {a b : Int} (hb : ov_g b) (hn : b ≠ 0) : ov_g (Int.tmod a b) := by
  have h1 : (Int.tmod a b).natAbs < b.natAbs := by
    rw [Int.natAbs_tmod]
    exact Nat.mod_lt _ (by omega)
  constructor <;> omega
theorem ov_g32 (x : Int32) : ov_g x.toInt := by
  have h1 := Int32.le_toInt x
  have h2 := Int32.toInt_lt x
  constructor <;> omega
theorem ov_andg (a b : Int) : ov_g (ov_and a b) := ov_g32 _
theorem ov_org (a b : Int) : ov_g (ov_or a b) := ov_g32 _
theorem ov_xorg (a b : Int) : ov_g (ov_xor a b) := ov_g32 _
theorem ov_shlg (a b : Int) : ov_g (ov_shl a b) := ov_g32 _
theorem ov_shrg (a b : Int) : ov_g (ov_shr a b) := ov_g32 _
theorem ov_ushrg (a b : Int) : ov_g (ov_ushr a b) := ov_g32 _
theorem ov_wg (a : Int) : ov_g (ov_w a) := ov_w_g a
theorem ov_lcg (a b : Int) : -1 ≤ ov_lcmp a b ∧ ov_lcmp a b ≤ 1 := by
  unfold ov_lcmp lg_cmp
  repeat' split
  all_goals decide
theorem ov_i2cg (a : Int) : 0 ≤ ov_i2c a ∧ ov_i2c a ≤ 65535 := by
  unfold ov_i2c
  rw [pk_char]
  have h : (Int32.ofInt a).toBitVec.toNat % 65536 < 65536 := Nat.mod_lt _ (by decide)
  rw [nI_toInt (by omega)]
  omega
theorem ov_and_m (a : Int) (k : Nat) (hk : k ≤ 30) : 0 ≤ ov_and a (2 ^ k - 1 : Nat) ∧ ov_and a (2 ^ k - 1 : Nat) ≤ (2 ^ k - 1 : Nat) := by
  have h2 : 2 ^ k ≤ 2 ^ 30 := Nat.pow_le_pow_right (by decide) hk
  have h1 : 0 < 2 ^ k := Nat.pow_pos (by decide)
  have e : Int32.ofInt ((2 ^ k - 1 : Nat) : Int) = nI (2 ^ k - 1) := Int32.ofInt_eq_ofNat
  unfold ov_and
  rw [e, pk_and _ k (pk_tn (by omega))]
  have h : (Int32.ofInt a).toBitVec.toNat % 2 ^ k < 2 ^ k := Nat.mod_lt _ h1
  rw [nI_toInt (by omega)]
  omega
theorem ov_and1 (a : Int) : 0 ≤ ov_and a 1 ∧ ov_and a 1 ≤ 1 := ov_and_m a 1 (by decide)
theorem ov_and255 (a : Int) : 0 ≤ ov_and a 255 ∧ ov_and a 255 ≤ 255 := ov_and_m a 8 (by decide)
/-- tableswitch: within, beyond -/
theorem ov_tin {u : ov_U} {d : Nat} {M : ov_M} {pc : Nat} {ls : List (Nat × ov_V)} {st : List ov_V} {z : ov_Z} {h : ov_H} {Q : Option ov_V → ov_Z → ov_H → Prop} {dflt lo hi : Int} {offs : Array Int} {len : Nat} {a off : Int} {tgt : Nat} (hd : decode M.2.1 pc = .ok (.tableswitch dflt lo hi offs, len)) (ha : ov_g a) (h1 : lo ≤ a ∧ a ≤ hi) (ho : offs[(a - lo).toNat]? = some off) (ht : (pc : Int) + off = (tgt : Int)) (k : ov_R u d M tgt ls st z h Q) : ov_R u d M pc ls (ov_i a :: st) z h Q := by
  intro hu p e s m args below meth c H locs cells slots lr n0 g0 C hRp hlocs hl
  exact lv_tableIn C.1 C.2.1 hd (by rw [ov_toInt ha]; omega) (by rw [ov_toInt ha]; omega) (by rw [ov_toInt ha]; exact ho) ht (k hu p e s m args below meth c H locs cells slots lr n0 g0 C hRp hlocs hl)
theorem ov_tout {u : ov_U} {d : Nat} {M : ov_M} {pc : Nat} {ls : List (Nat × ov_V)} {st : List ov_V} {z : ov_Z} {h : ov_H} {Q : Option ov_V → ov_Z → ov_H → Prop} {dflt lo hi : Int} {offs : Array Int} {len : Nat} {a : Int} {tgt : Nat} (hd : decode M.2.1 pc = .ok (.tableswitch dflt lo hi offs, len)) (ha : ov_g a) (h1 : a < lo ∨ hi < a) (ht : (pc : Int) + dflt = (tgt : Int)) (k : ov_R u d M tgt ls st z h Q) : ov_R u d M pc ls (ov_i a :: st) z h Q := by
  intro hu p e s m args below meth c H locs cells slots lr n0 g0 C hRp hlocs hl
  exact lv_tableOut C.1 C.2.1 hd (by rw [ov_toInt ha]; exact h1) ht (k hu p e s m args below meth c H locs cells slots lr n0 g0 C hRp hlocs hl)
/-- what the statement gives of the start: the static row RESERVED is at place -2, the string constant at -3, its bytes at -5 -/
def ov_str (u : ov_U) : Prop :=
  (Jvm.Cond.and given_1 narrow_1).before u.2.2.1 (ov_s0 u) = true ∧
  (Term.static "OverFirst" "RESERVED" "[J").eval u.2.2.1 (ov_s0 u) none [] (ov_s0 u) = some (.ref (u.2.2.2.2.2.1 (-2))) ∧
  (Term.string "OverFirst$Tape" 44).eval u.2.2.1 (ov_s0 u) none [] (ov_s0 u) = some (.ref (u.2.2.2.2.2.1 (-3))) ∧
  (Term.field (Term.string "OverFirst$Tape" 44) "java/lang/String" "value" "[B").eval u.2.2.1 (ov_s0 u) none [] (ov_s0 u) = some (.ref (u.2.2.2.2.2.1 (-5))) ∧
  u.1.flags = flags0
abbrev ov_cap (u : ov_U) : Prop := ov_K u = 600000 ∧ ov_S u = 7302250 ∧ ov_str u
/-- room for one call less -/
theorem ov_dm {d k : Nat} (h : k + 1 ≤ d) : d - 1 + 1 ≤ d := by omega

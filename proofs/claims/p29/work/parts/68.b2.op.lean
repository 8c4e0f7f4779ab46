/-! what isn't told stands as always -/
def pt_DF (A : Int → Int) : Prop := (1 ≤ A 0 ∧ A 0 ≤ 6 ∧ 1 ≤ A 1 ∧ A 1 ≤ 9 ∧ 0 ≤ A 8) ∧ (A 300 = 0 → A 2 = 10) ∧ (A 301 = 0 → A 3 = -1) ∧ (A 302 = 0 → A 4 = -1) ∧ (A 303 = 0 → A 5 = 0)
theorem pt_fN_zz {t : Int → Int} {m lo hi p : Int} (e : pt_fN t m lo hi p = 0) : lo ≤ pt_nm t m p ∧ pt_nm t m p ≤ hi := by
  unfold pt_fN at e
  split at e
  · split at e
    · assumption
    · omega
  · omega
theorem pt_DF_of {A B : Int → Int} (D : pt_DF A) (e : ∀ j : Int, j = 0 ∨ j = 1 ∨ 2 ≤ j ∧ j ≤ 5 ∨ 300 ≤ j ∧ j ≤ 303 → B j = A j) (e8 : 0 ≤ B 8) : pt_DF B := by
  obtain ⟨⟨d0, d1, d2, d3, d4⟩, d5, d6, d7, d8⟩ := D
  refine ⟨⟨?_, ?_, ?_, ?_, e8⟩, ?_, ?_, ?_, ?_⟩
  · rw [e 0 (by omega)]; exact d0
  · rw [e 0 (by omega)]; exact d1
  · rw [e 1 (by omega)]; exact d2
  · rw [e 1 (by omega)]; exact d3
  · rw [e 300 (by omega), e 2 (by omega)]; exact d5
  · rw [e 301 (by omega), e 3 (by omega)]; exact d6
  · rw [e 302 (by omega), e 4 (by omega)]; exact d7
  · rw [e 303 (by omega), e 5 (by omega)]; exact d8
theorem pt_DF_sA {A : Int → Int} (D : pt_DF A) {w v : Int} (hw : 0 ≤ w ∧ w ≤ 3) : pt_DF (ov_rs (ov_rs A (300 + w) 1) (2 + w) v) := by
  have e : ∀ j : Int, j ≠ 300 + w → j ≠ 2 + w → ov_rs (ov_rs A (300 + w) 1) (2 + w) v j = A j := fun j a b => by rw [ov_rs_ne b, ov_rs_ne a]
  have e1 : ov_rs (ov_rs A (300 + w) 1) (2 + w) v (300 + w) = 1 := by rw [ov_rs_ne (by omega), ov_rs_eq]
  generalize ov_rs (ov_rs A (300 + w) 1) (2 + w) v = r at e e1 ⊢
  obtain ⟨⟨d0, d1, d2, d3, d4⟩, d5, d6, d7, d8⟩ := D
  have f0 := e 0 (by omega) (by omega)
  have f1 := e 1 (by omega) (by omega)
  have f8 := e 8 (by omega) (by omega)
  refine ⟨⟨by omega, by omega, by omega, by omega, by omega⟩, ?_, ?_, ?_, ?_⟩
  · by_cases q : w = 0
    · subst q
      intro hh
      rw [show (300 : Int) + 0 = 300 from rfl] at e1
      omega
    · rw [e 300 (by omega) (by omega), e 2 (by omega) (by omega)]
      exact d5
  · by_cases q : w = 1
    · subst q
      intro hh
      rw [show (300 : Int) + 1 = 301 from rfl] at e1
      omega
    · rw [e 301 (by omega) (by omega), e 3 (by omega) (by omega)]
      exact d6
  · by_cases q : w = 2
    · subst q
      intro hh
      rw [show (300 : Int) + 2 = 302 from rfl] at e1
      omega
    · rw [e 302 (by omega) (by omega), e 4 (by omega) (by omega)]
      exact d7
  · by_cases q : w = 3
    · subst q
      intro hh
      rw [show (300 : Int) + 3 = 303 from rfl] at e1
      omega
    · rw [e 303 (by omega) (by omega), e 5 (by omega) (by omega)]
      exact d8
theorem pt_DF_st {t : Int → Int} {m : Int} {A : Int → Int} {p : Int} (D : pt_DF A) (k : 3 ≤ pt_lk t m p ∧ pt_lk t m p ≤ 6) : pt_DF (pt_LA t m A p) := by
  unfold pt_LA
  rw [if_neg (by omega), if_neg (by omega), if_neg (by omega), if_neg (by omega)]
  unfold pt_stA
  exact pt_DF_sA D (by omega)
theorem pt_DF_LA {t : Int → Int} {m : Int} {A : Int → Int} {p q : Int} (D : pt_DF A) (a : pt_EL t m A p 0 q) : pt_DF (pt_LA t m A p) := by
  have D0 := D.1
  unfold pt_EL at a
  rcases a with ⟨k, e, -⟩ | ⟨k, e, -⟩ | ⟨k, n, e, -⟩ | ⟨k, e, -⟩ | ⟨k0, k1, e, -⟩ | ⟨k, e, -⟩ | ⟨k, e, -⟩ | ⟨k, e, -⟩
  · have e1 : pt_fN t m 0 (A 0 - 1) (pt_nt t m p) = 0 := by
      by_cases c : pt_fN t m 0 (A 0 - 1) (pt_nt t m p) = 0
      · exact c
      · unfold pt_liF at e
        rw [if_pos c] at e
        exact e.symm
    have e2 : pt_fN t m 0 (A 1 - 1) (pt_nt t m (pt_nt t m p)) = 0 := by
      by_cases c : pt_fN t m 0 (A 1 - 1) (pt_nt t m (pt_nt t m p)) = 0
      · exact c
      · unfold pt_liF at e
        rw [if_neg (fun w => w e1), if_pos c] at e
        exact e.symm
    have b1 := pt_fN_zz e1
    have b2 := pt_fN_zz e2
    unfold pt_LA
    rw [if_pos k]
    unfold pt_liA pt_liB
    refine pt_DF_of D (fun j hj => ?_) ?_
    · rw [ov_rs_ne (by omega), ov_rs_ne (by omega), ov_rs_ne (by omega), ov_rs_ne (by omega), ov_rs_ne (by omega), ov_rs_ne (by omega)]
    · rw [ov_rs_ne (by omega), ov_rs_ne (by omega), ov_rs_ne (by omega), ov_rs_ne (by omega), ov_rs_ne (by omega), ov_rs_ne (by omega)]
      exact D0.2.2.2.2
  · have e1 : pt_fN t m 0 (A 0 - 1) (pt_nt t m p) = 0 := by
      by_cases c : pt_fN t m 0 (A 0 - 1) (pt_nt t m p) = 0
      · exact c
      · unfold pt_brF at e
        rw [if_pos c] at e
        exact e.symm
    have e2 : pt_fN t m 0 (A 1 - 1) (pt_nt t m (pt_nt t m p)) = 0 := by
      by_cases c : pt_fN t m 0 (A 1 - 1) (pt_nt t m (pt_nt t m p)) = 0
      · exact c
      · unfold pt_brF at e
        rw [if_neg (fun w => w e1), if_pos c] at e
        exact e.symm
    have b1 := pt_fN_zz e1
    have b2 := pt_fN_zz e2
    unfold pt_LA
    rw [if_neg (by omega), if_pos k]
    unfold pt_brA
    refine pt_DF_of D (fun j hj => ?_) ?_
    · rw [ov_rs_ne (by omega)]
    · rw [ov_rs_ne (by omega)]
      exact D0.2.2.2.2
  · exact absurd e.symm n
  · unfold pt_LA
    rw [if_neg (by omega), if_neg (by omega), if_pos k]
    unfold pt_ruA
    refine pt_DF_of D (fun j hj => ?_) ?_
    · rw [ov_rs_ne (by omega), ov_rs_ne (by omega)]
    · rw [ov_rs_eq]
      omega
  · exact pt_DF_st D (by omega)
  · exact pt_DF_st D (by omega)
  · unfold pt_LA
    rw [if_neg (by omega), if_neg (by omega), if_neg (by omega), if_pos k]
    unfold pt_chA
    refine pt_DF_of D (fun j hj => ?_) ?_
    · rw [ov_rs_ne (by omega), ov_rs_ne (by omega)]
    · rw [ov_rs_ne (by omega), ov_rs_ne (by omega)]
      exact D0.2.2.2.2
  · omega
theorem pt_DF_EGk {t : Int → Int} {m : Int} : ∀ (k : Nat) {A : Int → Int} {p f : Int} {B : Int → Int}, pt_DF A → pt_EGk t m k A p f B → f = 0 → pt_DF B
  | 0, _, _, _, _, _, a, _ => absurd a (fun w => w)
  | k + 1, A, p, f, B, D, a, hf => by
    rcases a with ⟨a1, a2, a4⟩ | ⟨a1, g, q, a2, a3⟩
    · rw [a4]; exact D
    · rcases a3 with ⟨c1, c2⟩ | ⟨c1, c2, c4, c3⟩ | ⟨c1, c2, c3⟩
      · omega
      · omega
      · subst c1
        exact pt_DF_EGk k (pt_DF_LA D a2) c3 hf
theorem pt_DF_0 {w l : Int} (hw : 1 ≤ w ∧ w ≤ 6) (hl : 1 ≤ l ∧ l ≤ 9) : pt_DF (pt_A0 w l) := ⟨⟨hw.1, hw.2, hl.1, hl.2, Int.le_refl 0⟩, fun _ => rfl, fun _ => rfl, fun _ => rfl, fun _ => rfl⟩
theorem pt_ET_df {t : Int → Int} {m : Int} {B : Int → Int} (a : pt_ET t m 0 B) : pt_DF B := by
  rcases a with ⟨a1, a2⟩ | ⟨a1, k, a2⟩
  · exact absurd a2.symm a1
  · generalize pt_rn pt_bB t m 0 = p0 at a1 a2
    have e0 : pt_fW t m 1953462126 p0 = 0 := by
      by_cases c : pt_fW t m 1953462126 p0 = 0
      · exact c
      · unfold pt_szF at a1
        rw [if_pos c] at a1
        exact a1
    have e1 : pt_fN t m 1 6 (pt_nt t m p0) = 0 := by
      by_cases c : pt_fN t m 1 6 (pt_nt t m p0) = 0
      · exact c
      · unfold pt_szF at a1
        rw [if_neg (fun w => w e0), if_pos c] at a1
        exact a1
    have e2 : pt_fN t m 1 9 (pt_nt t m (pt_nt t m p0)) = 0 := by
      by_cases c : pt_fN t m 1 9 (pt_nt t m (pt_nt t m p0)) = 0
      · exact c
      · unfold pt_szF at a1
        rw [if_neg (fun w => w e0), if_neg (fun w => w e1), if_pos c] at a1
        exact a1
    exact pt_DF_EGk k (pt_DF_0 (pt_fN_zz e1) (pt_fN_zz e2)) a2 rfl
/-! whether a way is open -/
def tw_op (w l kd rd sp br c way : Int) : Int := if way = 0 then (if c % 6 < w - 1 then (if ov_and (ov_shr br way) 1 = 0 then (if kd = 0 ∨ kd = 1 then (if 0 < sp then 1 else 0) else 1) else 0) else 0) else (if c / 6 < l - 1 then (if ov_and (ov_shr br way) 1 = 0 then (if kd = 0 ∨ kd = 1 then (if sp < rd then 1 else 0) else 1) else 0) else 0)
def tw_opx (r0 r1 r2 r4 r5 : Int → Int) (j : Int) : Int := tw_op (r0 0) (r0 1) (r1 j) (r2 j) (r4 j) (r5 j) j 0 + 2 * tw_op (r0 0) (r0 1) (r1 j) (r2 j) (r4 j) (r5 j) j 1
/-- the class's town behind complete, as the town B -/
def tw_TB (B r0 r1 r2 r3 r4 r5 r6 r7 : Int → Int) : Prop :=
  (r0 0 = B 0 ∧ r0 1 = B 1 ∧ r0 8 = B 6 ∧ r0 9 = B 7 ∧ r0 10 = B 9 ∧ r0 11 = B 8) ∧
  (∀ c : Int, 0 ≤ c → c < 54 → r1 c = B (10 + 4 * c) - 1 ∧ r5 c = B (226 + c)) ∧
  (∀ c : Int, 0 ≤ c → c < 54 → 1 ≤ B (10 + 4 * c) → r2 c = B (11 + 4 * c) ∧ r3 c = B (12 + 4 * c) ∧ r4 c = B (13 + 4 * c)) ∧
  (r6 0 = B 2 ∧ (B 3 < 0 → r6 1 = B 2) ∧ (¬ B 3 < 0 → r6 1 = B 3) ∧ (B 4 < 0 → r6 2 = B 2) ∧ (¬ B 4 < 0 → r6 2 = B 4) ∧ r6 3 = B 5) ∧
  (∀ c : Int, 0 ≤ c → c < 54 → r7 c = tw_opx r0 r1 r2 r4 r5 c) ∧ (1 ≤ B 0 ∧ B 0 ≤ 6 ∧ 1 ≤ B 1 ∧ B 1 ≤ 9)
theorem ov_TB_cg {B B2 r0 r1 r2 r3 r4 r5 r6 r7 : Int → Int} (K : tw_TB B r0 r1 r2 r3 r4 r5 r6 r7) (e : ∀ j : Int, 0 ≤ j → j < 280 → B2 j = B j) : tw_TB B2 r0 r1 r2 r3 r4 r5 r6 r7 := by
  obtain ⟨k1, k2, k3, k4, k5, k6⟩ := K
  refine ⟨?_, fun c h0 h1 => ?_, fun c h0 h1 h2 => ?_, ?_, k5, ?_⟩
  · rw [e 0 (by decide) (by decide), e 1 (by decide) (by decide), e 6 (by decide) (by decide), e 7 (by decide) (by decide), e 8 (by decide) (by decide), e 9 (by decide) (by decide)]
    exact k1
  · rw [e _ (by omega) (by omega), e _ (by omega) (by omega)]
    exact k2 c h0 h1
  · rw [e _ (by omega) (by omega)] at h2
    rw [e _ (by omega) (by omega), e _ (by omega) (by omega), e _ (by omega) (by omega)]
    exact k3 c h0 h1 h2
  · rw [e 2 (by decide) (by decide), e 3 (by decide) (by decide), e 4 (by decide) (by decide), e 5 (by decide) (by decide)]
    exact k4
  · rw [e 0 (by decide) (by decide), e 1 (by decide) (by decide)]
    exact k6
theorem ov_TB_cr {t : Int → Int} {m : Int} {A r0 r1 r2 r3 r4 r5 r6 r8 q0 q1 q2 q3 q4 q5 q6 q7 : Int → Int} (K : pt_CR t m A r0 r1 r2 r3 r4 r5 r6 r8) (D : pt_DF A) (e0 : q0 = r0) (e1 : q1 = r1) (e2 : q2 = r2) (e3 : q3 = r3) (e4 : q4 = r4) (e5 : q5 = r5)
    (se : (r6 0 = -1 → q6 0 = 10) ∧ (¬ r6 0 = -1 → q6 0 = r6 0) ∧ (r6 1 = -1 → q6 1 = q6 0) ∧ (¬ r6 1 = -1 → q6 1 = r6 1) ∧ (r6 2 = -1 → q6 2 = q6 0) ∧ (¬ r6 2 = -1 → q6 2 = r6 2) ∧ (r6 3 = -1 → q6 3 = 0) ∧ (¬ r6 3 = -1 → q6 3 = r6 3)) (op : ∀ j : Int, 0 ≤ j → j < 54 → q7 j = tw_opx q0 q1 q2 q4 q5 j) : tw_TB A q0 q1 q2 q3 q4 q5 q6 q7 := by
  subst e0 e1 e2 e3 e4 e5
  obtain ⟨k1, k2, k3, k4, k5, k6⟩ := K
  obtain ⟨d0, d1, d2, d3, d4⟩ := D
  have u : ∀ i : Int, 0 ≤ i → i < 4 → (A (300 + i) = 0 → r6 i = -1) ∧ (¬ A (300 + i) = 0 → r6 i = A (2 + i) ∧ 0 ≤ A (2 + i)) := fun i h0 h1 => by
    obtain ⟨q1, q2⟩ := k4 i h0 h1
    unfold pt_se at q1
    split at q1
    · rename_i w
      exact ⟨fun _ => q1, fun v => absurd w v⟩
    · rename_i w
      exact ⟨fun v => absurd v w, fun _ => ⟨q1, q2 w⟩⟩
  have u0 : (A 300 = 0 → r6 0 = -1) ∧ (¬ A 300 = 0 → r6 0 = A 2 ∧ 0 ≤ A 2) := u 0 (by decide) (by decide)
  have u1 : (A 301 = 0 → r6 1 = -1) ∧ (¬ A 301 = 0 → r6 1 = A 3 ∧ 0 ≤ A 3) := u 1 (by decide) (by decide)
  have u2 : (A 302 = 0 → r6 2 = -1) ∧ (¬ A 302 = 0 → r6 2 = A 4 ∧ 0 ≤ A 4) := u 2 (by decide) (by decide)
  have u3 : (A 303 = 0 → r6 3 = -1) ∧ (¬ A 303 = 0 → r6 3 = A 5 ∧ 0 ≤ A 5) := u 3 (by decide) (by decide)
  obtain ⟨s0, s1, s2, s3, s4, s5, s6, s7⟩ := se
  have y0 : q6 0 = A 2 := by
    by_cases w : A 300 = 0
    · have a := s0 (u0.1 w)
      have b := d1 w
      omega
    · have a := u0.2 w
      have b := s1 (by omega)
      omega
  refine ⟨?_, k2, k3, ⟨y0, fun w => ?_, fun w => ?_, fun w => ?_, fun w => ?_, ?_⟩, op, ?_⟩
  · clear u u0 u1 u2 u3 s0 s1 s2 s3 s4 s5 s6 s7 d1 d2 d3 d4
    omega
  · by_cases v : A 301 = 0
    · have a := s2 (u1.1 v)
      omega
    · have a := u1.2 v
      omega
  · by_cases v : A 301 = 0
    · have b := d2 v
      omega
    · have a := u1.2 v
      have b := s3 (by omega)
      omega
  · by_cases v : A 302 = 0
    · have a := s4 (u2.1 v)
      omega
    · have a := u2.2 v
      omega
  · by_cases v : A 302 = 0
    · have b := d3 v
      omega
    · have a := u2.2 v
      have b := s5 (by omega)
      omega
  · by_cases v : A 303 = 0
    · have a := s6 (u3.1 v)
      have b := d4 v
      omega
    · have a := u3.2 v
      have b := s7 (by omega)
      omega
  · exact ⟨d0.1, d0.2.1, d0.2.2.1, d0.2.2.2.1⟩

abbrev P_Town_isBeyond_58_t (F : ov_H) (z : ov_Z) (h : ov_H) (c : Int) (way : Int) : Option ov_V → ov_Z → ov_H → Prop := fun r0 z' h' => ∃ r : Int, r0 = some (ov_i r) ∧ z = z' ∧ h = h' ∧ ((way = 0 ∧ (r = 0 ∧ c % 6 < (h 58 0) - 1 ∨ r = 1 ∧ (h 58 0) - 1 ≤ c % 6) ∨ ¬ way = 0 ∧ (r = 0 ∧ c / 6 < (h 58 1) - 1 ∨ r = 1 ∧ (h 58 1) - 1 ≤ c / 6)))
set_option maxHeartbeats 4000000 in
theorem c_Town_isBeyond_58_t {u : ov_U} {F : ov_H} {z : ov_Z} {h : ov_H} (d : Nat) (hd : 0 ≤ d) (U : ov_cap u) (I : ov_I F z h) (c : Int) (way : Int) (g_c : ov_g c) (g_way : ov_g way) (p0 : 0 ≤ c ∧ c ≤ 53) : ov_T u d ov_m18 [ov_r 58, ov_i c, ov_i way] z h (P_Town_isBeyond_58_t F z h c way) := by
  refine ov_en rfl (Nat.le_of_ble_eq_true rfl) ?_
  show ov_R u d ov_m18 0 [(0, ov_r 58), (1, ov_i c), (2, ov_i way)] [] z h (P_Town_isBeyond_58_t F z h c way)
  refine ov_blk (ls2 := [(0, ov_r 58), (1, ov_i c), (2, ov_i way)]) (st2 := [ov_i way]) (pc2 := 1) b_18_0_1 rfl rfl ?_
  refine ov_ifne (tgt := 25) d_18_1 (by decide) (by omega) (fun c1 => ?_) (fun c1 => ?_)
  · skip
    refine ov_blk (ls2 := [(0, ov_r 58), (1, ov_i c), (2, ov_i way)]) (st2 := [ov_i 6, ov_i c]) (pc2 := 28) b_18_25_2 rfl rfl ?_
    refine ov_idiv d_18_28 (by omega) (by omega) (by omega) ?_
    have g2 := ov_td (a := c) (b := 6) (by omega)
    refine ov_blk (ls2 := [(0, ov_r 58), (1, ov_i c), (2, ov_i way)]) (st2 := [ov_r 58, ov_i (Int.tdiv c 6)]) (pc2 := 30) b_18_29_1 rfl rfl ?_
    refine ov_getf (v := ov_i (h 58 1)) d_18_30 fl_Town_50 (zb_58 I) (zs_58 I) rfl ?_
    have g3 := rg_58_1 I
    refine ov_blk (ls2 := [(0, ov_r 58), (1, ov_i c), (2, ov_i way)]) (st2 := [ov_i ((h 58 1) - 1), ov_i (Int.tdiv c 6)]) (pc2 := 35) b_18_33_2 rfl rfl ?_
    refine ov_iclt (tgt := 42) d_18_35 (by decide) (by omega) (by omega) (fun c4 => ?_) (fun c4 => ?_)
    · skip
      refine ov_blk (ls2 := [(0, ov_r 58), (1, ov_i c), (2, ov_i way)]) (st2 := [ov_i 0]) (pc2 := 43) b_18_42_1 rfl rfl ?_
      exact ov_retz (st := []) d_18_43 rfl (by omega) ⟨_, rfl, rfl, rfl, (by show (way = 0 ∧ (0 = 0 ∧ c % 6 < (h 58 0) - 1 ∨ 0 = 1 ∧ (h 58 0) - 1 ≤ c % 6) ∨ ¬ way = 0 ∧ (0 = 0 ∧ c / 6 < (h 58 1) - 1 ∨ 0 = 1 ∧ (h 58 1) - 1 ≤ c / 6)); omega)⟩
    · skip
      refine ov_blk (ls2 := [(0, ov_r 58), (1, ov_i c), (2, ov_i way)]) (st2 := [ov_i 1]) (pc2 := 39) b_18_38_1 rfl rfl ?_
      refine ov_goto (tgt := 43) d_18_39 (by decide) ?_
      exact ov_retz (st := []) d_18_43 rfl (by omega) ⟨_, rfl, rfl, rfl, (by show (way = 0 ∧ (1 = 0 ∧ c % 6 < (h 58 0) - 1 ∨ 1 = 1 ∧ (h 58 0) - 1 ≤ c % 6) ∨ ¬ way = 0 ∧ (1 = 0 ∧ c / 6 < (h 58 1) - 1 ∨ 1 = 1 ∧ (h 58 1) - 1 ≤ c / 6)); omega)⟩
  · skip
    refine ov_blk (ls2 := [(0, ov_r 58), (1, ov_i c), (2, ov_i way)]) (st2 := [ov_i 6, ov_i c]) (pc2 := 7) b_18_4_2 rfl rfl ?_
    refine ov_irem d_18_7 (by omega) (by omega) (by omega) ?_
    have g5 := ov_tm (a := c) (b := 6) (by omega)
    have g6 := ov_tmg (a := c) (b := 6) (by omega) (by omega)
    refine ov_blk (ls2 := [(0, ov_r 58), (1, ov_i c), (2, ov_i way)]) (st2 := [ov_r 58, ov_i (Int.tmod c 6)]) (pc2 := 9) b_18_8_1 rfl rfl ?_
    refine ov_getf (v := ov_i (h 58 0)) d_18_9 fl_Town_46 (zb_58 I) (zs_58 I) rfl ?_
    have g7 := rg_58_0 I
    refine ov_blk (ls2 := [(0, ov_r 58), (1, ov_i c), (2, ov_i way)]) (st2 := [ov_i ((h 58 0) - 1), ov_i (Int.tmod c 6)]) (pc2 := 14) b_18_12_2 rfl rfl ?_
    refine ov_iclt (tgt := 21) d_18_14 (by decide) (by omega) (by omega) (fun c8 => ?_) (fun c8 => ?_)
    · skip
      refine ov_blk (ls2 := [(0, ov_r 58), (1, ov_i c), (2, ov_i way)]) (st2 := [ov_i 0]) (pc2 := 22) b_18_21_1 rfl rfl ?_
      refine ov_goto (tgt := 43) d_18_22 (by decide) ?_
      exact ov_retz (st := []) d_18_43 rfl (by omega) ⟨_, rfl, rfl, rfl, (by show (way = 0 ∧ (0 = 0 ∧ c % 6 < (h 58 0) - 1 ∨ 0 = 1 ∧ (h 58 0) - 1 ≤ c % 6) ∨ ¬ way = 0 ∧ (0 = 0 ∧ c / 6 < (h 58 1) - 1 ∨ 0 = 1 ∧ (h 58 1) - 1 ≤ c / 6)); omega)⟩
    · skip
      refine ov_blk (ls2 := [(0, ov_r 58), (1, ov_i c), (2, ov_i way)]) (st2 := [ov_i 1]) (pc2 := 18) b_18_17_1 rfl rfl ?_
      refine ov_goto (tgt := 43) d_18_18 (by decide) ?_
      exact ov_retz (st := []) d_18_43 rfl (by omega) ⟨_, rfl, rfl, rfl, (by show (way = 0 ∧ (1 = 0 ∧ c % 6 < (h 58 0) - 1 ∨ 1 = 1 ∧ (h 58 0) - 1 ≤ c % 6) ∨ ¬ way = 0 ∧ (1 = 0 ∧ c / 6 < (h 58 1) - 1 ∨ 1 = 1 ∧ (h 58 1) - 1 ≤ c / 6)); omega)⟩
abbrev P_Town_isBarred_58_t (F : ov_H) (z : ov_Z) (h : ov_H) (c : Int) (way : Int) : Option ov_V → ov_Z → ov_H → Prop := fun r0 z' h' => ∃ r : Int, r0 = some (ov_i r) ∧ z = z' ∧ h = h' ∧ ((r = 0 ∧ ov_and (ov_shr (h 63 c) way) 1 = 0 ∨ r = 1 ∧ ¬ ov_and (ov_shr (h 63 c) way) 1 = 0))
set_option maxHeartbeats 4000000 in
theorem c_Town_isBarred_58_t {u : ov_U} {F : ov_H} {z : ov_Z} {h : ov_H} (d : Nat) (hd : 0 ≤ d) (U : ov_cap u) (I : ov_I F z h) (c : Int) (way : Int) (g_c : ov_g c) (g_way : ov_g way) (p0 : 0 ≤ c ∧ c ≤ 53) : ov_T u d ov_m19 [ov_r 58, ov_i c, ov_i way] z h (P_Town_isBarred_58_t F z h c way) := by
  refine ov_en rfl (Nat.le_of_ble_eq_true rfl) ?_
  show ov_R u d ov_m19 0 [(0, ov_r 58), (1, ov_i c), (2, ov_i way)] [] z h (P_Town_isBarred_58_t F z h c way)
  refine ov_blk (ls2 := [(0, ov_r 58), (1, ov_i c), (2, ov_i way)]) (st2 := [ov_r 58]) (pc2 := 1) b_19_0_1 rfl rfl ?_
  refine ov_getf (v := ov_r 63) d_19_1 fl_Town_24 (zb_58 I) (zs_58 I) (congrArg ov_r (rg_58_6 I)) ?_
  refine ov_blk (ls2 := [(0, ov_r 58), (1, ov_i c), (2, ov_i way)]) (st2 := [ov_i c, ov_r 63]) (pc2 := 5) b_19_4_1 rfl rfl ?_
  refine ov_iald d_19_5 (zb_63 I) (zs_63 I) (by omega) ?_
  have g1 := ra_63 I c
  refine ov_blk (ls2 := [(0, ov_r 58), (1, ov_i c), (2, ov_i way)]) (st2 := [ov_i (ov_and (ov_shr (h 63 c) way) 1)]) (pc2 := 10) b_19_6_4 rfl rfl ?_
  have g2 := ov_shrg (h 63 c) way
  have g3 := ov_andg (ov_shr (h 63 c) way) 1
  have g4 := ov_and1 (ov_shr (h 63 c) way)
  refine ov_ifeq (tgt := 17) d_19_10 (by decide) (by omega) (fun c5 => ?_) (fun c5 => ?_)
  · skip
    refine ov_blk (ls2 := [(0, ov_r 58), (1, ov_i c), (2, ov_i way)]) (st2 := [ov_i 0]) (pc2 := 18) b_19_17_1 rfl rfl ?_
    exact ov_retz (st := []) d_19_18 rfl (by omega) ⟨_, rfl, rfl, rfl, (by show (0 = 0 ∧ ov_and (ov_shr (h 63 c) way) 1 = 0 ∨ 0 = 1 ∧ ¬ ov_and (ov_shr (h 63 c) way) 1 = 0); omega)⟩
  · skip
    refine ov_blk (ls2 := [(0, ov_r 58), (1, ov_i c), (2, ov_i way)]) (st2 := [ov_i 1]) (pc2 := 14) b_19_13_1 rfl rfl ?_
    refine ov_goto (tgt := 18) d_19_14 (by decide) ?_
    exact ov_retz (st := []) d_19_18 rfl (by omega) ⟨_, rfl, rfl, rfl, (by show (1 = 0 ∧ ov_and (ov_shr (h 63 c) way) 1 = 0 ∨ 1 = 1 ∧ ¬ ov_and (ov_shr (h 63 c) way) 1 = 0); omega)⟩
abbrev P_Town_opens_58_t (F : ov_H) (z : ov_Z) (h : ov_H) (c : Int) (way : Int) : Option ov_V → ov_Z → ov_H → Prop := fun r0 z' h' => ∃ r : Int, r0 = some (ov_i r) ∧ z = z' ∧ h = h' ∧ (r = tw_op (h 58 0) (h 58 1) (h 59 c) (h 60 c) (h 62 c) (h 63 c) c way ∧ (r = 0 ∨ r = 1) ∧ (r = 1 → (way = 0 ∧ c ≤ 52) ∨ (way = 1 ∧ c ≤ 47)))
set_option maxHeartbeats 4000000 in
theorem c_Town_opens_58_t {u : ov_U} {F : ov_H} {z : ov_Z} {h : ov_H} (d : Nat) (hd : 1 ≤ d) (U : ov_cap u) (I : ov_I F z h) (c : Int) (way : Int) (g_c : ov_g c) (g_way : ov_g way) (p0 : 0 ≤ c ∧ c ≤ 53) (p1 : way = 0 ∨ way = 1) : ov_T u d ov_m17 [ov_r 58, ov_i c, ov_i way] z h (P_Town_opens_58_t F z h c way) := by
  refine ov_en rfl (Nat.le_of_ble_eq_true rfl) ?_
  show ov_R u d ov_m17 0 [(0, ov_r 58), (1, ov_i c), (2, ov_i way)] [] z h (P_Town_opens_58_t F z h c way)
  have rgx0 := rg_58_0 I
  have rgx1 := rg_58_1 I
  refine ov_blk (ls2 := [(0, ov_r 58), (1, ov_i c), (2, ov_i way)]) (st2 := [ov_i way, ov_i c, ov_r 58]) (pc2 := 3) b_17_0_3 rfl rfl ?_
  refine ov_cV (as := [ov_i c, ov_i way]) (st := []) (d2 := d - 1) d_17_3 lk_Town_83 rfl (Nat.le_of_ble_eq_true rfl) (c := 9) (zb_58 I) (zs_58 I) ⟨by decide, rfl⟩ (by omega) (c_Town_isBeyond_58_t (d - 1) (by omega) U I c way (by omega) (by omega) (by omega)) ?_
  rintro _ _ _ ⟨v2, rfl, rfl, rfl, f1⟩
  show ov_R u d ov_m17 6 [(0, ov_r 58), (1, ov_i c), (2, ov_i way)] [ov_i v2] z h (P_Town_opens_58_t F z h c way)
  have f3 : (way = 0 ∧ (v2 = 0 ∧ c % 6 < (h 58 0) - 1 ∨ v2 = 1 ∧ (h 58 0) - 1 ≤ c % 6) ∨ ¬ way = 0 ∧ (v2 = 0 ∧ c / 6 < (h 58 1) - 1 ∨ v2 = 1 ∧ (h 58 1) - 1 ≤ c / 6)) := f1
  clear f1
  refine ov_ifne (tgt := 18) d_17_6 (by decide) (by omega) (fun c4 => ?_) (fun c4 => ?_)
  · skip
    refine ov_blk (ls2 := [(0, ov_r 58), (1, ov_i c), (2, ov_i way)]) (st2 := [ov_i 0]) (pc2 := 19) b_17_18_1 rfl rfl ?_
    exact ov_retz (st := []) d_17_19 rfl (by omega) ⟨_, rfl, rfl, rfl, (by show 0 = tw_op (h 58 0) (h 58 1) (h 59 c) (h 60 c) (h 62 c) (h 63 c) c way ∧ (0 = 0 ∨ 0 = 1) ∧ (0 = 1 → (way = 0 ∧ c ≤ 52) ∨ (way = 1 ∧ c ≤ 47)); refine ⟨?_, by omega⟩; unfold tw_op; repeat' split; all_goals omega)⟩
  · skip
    refine ov_blk (ls2 := [(0, ov_r 58), (1, ov_i c), (2, ov_i way)]) (st2 := [ov_i way, ov_i c, ov_r 58]) (pc2 := 12) b_17_9_3 rfl rfl ?_
    refine ov_cV (as := [ov_i c, ov_i way]) (st := []) (d2 := d - 1) d_17_12 lk_Town_86 rfl (Nat.le_of_ble_eq_true rfl) (c := 9) (zb_58 I) (zs_58 I) ⟨by decide, rfl⟩ (by omega) (c_Town_isBarred_58_t (d - 1) (by omega) U I c way (by omega) (by omega) (by omega)) ?_
    rintro _ _ _ ⟨v6, rfl, rfl, rfl, f5⟩
    show ov_R u d ov_m17 15 [(0, ov_r 58), (1, ov_i c), (2, ov_i way)] [ov_i v6] z h (P_Town_opens_58_t F z h c way)
    have f7 : (v6 = 0 ∧ ov_and (ov_shr (h 63 c) way) 1 = 0 ∨ v6 = 1 ∧ ¬ ov_and (ov_shr (h 63 c) way) 1 = 0) := f5
    clear f5
    refine ov_ifeq (tgt := 20) d_17_15 (by decide) (by omega) (fun c8 => ?_) (fun c8 => ?_)
    · skip
      refine ov_blk (ls2 := [(0, ov_r 58), (1, ov_i c), (2, ov_i way)]) (st2 := [ov_i c, ov_r 58]) (pc2 := 22) b_17_20_2 rfl rfl ?_
      refine ov_cV (as := [ov_i c]) (st := []) (d2 := d - 1) d_17_22 lk_Town_89 rfl (Nat.le_of_ble_eq_true rfl) (c := 9) (zb_58 I) (zs_58 I) ⟨by decide, rfl⟩ (by omega) (c_Town_isTimed_58_b (d - 1) (by omega) U I c (by omega) (by omega)) ?_
      rintro _ _ _ ⟨v10, rfl, rfl, rfl, f9⟩
      show ov_R u d ov_m17 25 [(0, ov_r 58), (1, ov_i c), (2, ov_i way)] [ov_i v10] z h (P_Town_opens_58_t F z h c way)
      have f11 : (v10 = 0 ∧ ¬ (h 59 c) = 0 ∧ ¬ (h 59 c) = 1 ∨ v10 = 1 ∧ ((h 59 c) = 0 ∨ (h 59 c) = 1)) := f9
      clear f9
      refine ov_ifeq (tgt := 59) d_17_25 (by decide) (by omega) (fun c12 => ?_) (fun c12 => ?_)
      · skip
        refine ov_blk (ls2 := [(0, ov_r 58), (1, ov_i c), (2, ov_i way)]) (st2 := [ov_i 1]) (pc2 := 60) b_17_59_1 rfl rfl ?_
        refine ov_goto (tgt := 64) d_17_60 (by decide) ?_
        exact ov_retz (st := []) d_17_64 rfl (by omega) ⟨_, rfl, rfl, rfl, (by show 1 = tw_op (h 58 0) (h 58 1) (h 59 c) (h 60 c) (h 62 c) (h 63 c) c way ∧ (1 = 0 ∨ 1 = 1) ∧ (1 = 1 → (way = 0 ∧ c ≤ 52) ∨ (way = 1 ∧ c ≤ 47)); refine ⟨?_, by omega⟩; unfold tw_op; repeat' split; all_goals omega)⟩
      · skip
        refine ov_blk (ls2 := [(0, ov_r 58), (1, ov_i c), (2, ov_i way)]) (st2 := [ov_i way]) (pc2 := 29) b_17_28_1 rfl rfl ?_
        refine ov_ifne (tgt := 44) d_17_29 (by decide) (by omega) (fun c13 => ?_) (fun c13 => ?_)
        · skip
          refine ov_blk (ls2 := [(0, ov_r 58), (1, ov_i c), (2, ov_i way)]) (st2 := [ov_r 58]) (pc2 := 45) b_17_44_1 rfl rfl ?_
          refine ov_getf (v := ov_r 62) d_17_45 fl_Town_21 (zb_58 I) (zs_58 I) (congrArg ov_r (rg_58_5 I)) ?_
          refine ov_blk (ls2 := [(0, ov_r 58), (1, ov_i c), (2, ov_i way)]) (st2 := [ov_i c, ov_r 62]) (pc2 := 49) b_17_48_1 rfl rfl ?_
          refine ov_iald d_17_49 (zb_62 I) (zs_62 I) (by omega) ?_
          have g14 := ra_62 I c
          refine ov_blk (ls2 := [(0, ov_r 58), (1, ov_i c), (2, ov_i way)]) (st2 := [ov_r 58, ov_i (h 62 c)]) (pc2 := 51) b_17_50_1 rfl rfl ?_
          refine ov_getf (v := ov_r 60) d_17_51 fl_Town_15 (zb_58 I) (zs_58 I) (congrArg ov_r (rg_58_3 I)) ?_
          refine ov_blk (ls2 := [(0, ov_r 58), (1, ov_i c), (2, ov_i way)]) (st2 := [ov_i c, ov_r 60, ov_i (h 62 c)]) (pc2 := 55) b_17_54_1 rfl rfl ?_
          refine ov_iald d_17_55 (zb_60 I) (zs_60 I) (by omega) ?_
          have g15 := ra_60 I c
          refine ov_icge (tgt := 63) d_17_56 (by decide) (by omega) (by omega) (fun c16 => ?_) (fun c16 => ?_)
          · skip
            refine ov_blk (ls2 := [(0, ov_r 58), (1, ov_i c), (2, ov_i way)]) (st2 := [ov_i 0]) (pc2 := 64) b_17_63_1 rfl rfl ?_
            exact ov_retz (st := []) d_17_64 rfl (by omega) ⟨_, rfl, rfl, rfl, (by show 0 = tw_op (h 58 0) (h 58 1) (h 59 c) (h 60 c) (h 62 c) (h 63 c) c way ∧ (0 = 0 ∨ 0 = 1) ∧ (0 = 1 → (way = 0 ∧ c ≤ 52) ∨ (way = 1 ∧ c ≤ 47)); refine ⟨?_, by omega⟩; unfold tw_op; repeat' split; all_goals omega)⟩
          · skip
            refine ov_blk (ls2 := [(0, ov_r 58), (1, ov_i c), (2, ov_i way)]) (st2 := [ov_i 1]) (pc2 := 60) b_17_59_1 rfl rfl ?_
            refine ov_goto (tgt := 64) d_17_60 (by decide) ?_
            exact ov_retz (st := []) d_17_64 rfl (by omega) ⟨_, rfl, rfl, rfl, (by show 1 = tw_op (h 58 0) (h 58 1) (h 59 c) (h 60 c) (h 62 c) (h 63 c) c way ∧ (1 = 0 ∨ 1 = 1) ∧ (1 = 1 → (way = 0 ∧ c ≤ 52) ∨ (way = 1 ∧ c ≤ 47)); refine ⟨?_, by omega⟩; unfold tw_op; repeat' split; all_goals omega)⟩
        · skip
          refine ov_blk (ls2 := [(0, ov_r 58), (1, ov_i c), (2, ov_i way)]) (st2 := [ov_r 58]) (pc2 := 33) b_17_32_1 rfl rfl ?_
          refine ov_getf (v := ov_r 62) d_17_33 fl_Town_21 (zb_58 I) (zs_58 I) (congrArg ov_r (rg_58_5 I)) ?_
          refine ov_blk (ls2 := [(0, ov_r 58), (1, ov_i c), (2, ov_i way)]) (st2 := [ov_i c, ov_r 62]) (pc2 := 37) b_17_36_1 rfl rfl ?_
          refine ov_iald d_17_37 (zb_62 I) (zs_62 I) (by omega) ?_
          have g17 := ra_62 I c
          refine ov_ifle (tgt := 63) d_17_38 (by decide) (by omega) (fun c18 => ?_) (fun c18 => ?_)
          · skip
            refine ov_blk (ls2 := [(0, ov_r 58), (1, ov_i c), (2, ov_i way)]) (st2 := [ov_i 0]) (pc2 := 64) b_17_63_1 rfl rfl ?_
            exact ov_retz (st := []) d_17_64 rfl (by omega) ⟨_, rfl, rfl, rfl, (by show 0 = tw_op (h 58 0) (h 58 1) (h 59 c) (h 60 c) (h 62 c) (h 63 c) c way ∧ (0 = 0 ∨ 0 = 1) ∧ (0 = 1 → (way = 0 ∧ c ≤ 52) ∨ (way = 1 ∧ c ≤ 47)); refine ⟨?_, by omega⟩; unfold tw_op; repeat' split; all_goals omega)⟩
          · skip
            refine ov_goto (tgt := 59) d_17_41 (by decide) ?_
            refine ov_blk (ls2 := [(0, ov_r 58), (1, ov_i c), (2, ov_i way)]) (st2 := [ov_i 1]) (pc2 := 60) b_17_59_1 rfl rfl ?_
            refine ov_goto (tgt := 64) d_17_60 (by decide) ?_
            exact ov_retz (st := []) d_17_64 rfl (by omega) ⟨_, rfl, rfl, rfl, (by show 1 = tw_op (h 58 0) (h 58 1) (h 59 c) (h 60 c) (h 62 c) (h 63 c) c way ∧ (1 = 0 ∨ 1 = 1) ∧ (1 = 1 → (way = 0 ∧ c ≤ 52) ∨ (way = 1 ∧ c ≤ 47)); refine ⟨?_, by omega⟩; unfold tw_op; repeat' split; all_goals omega)⟩
    · skip
      refine ov_blk (ls2 := [(0, ov_r 58), (1, ov_i c), (2, ov_i way)]) (st2 := [ov_i 0]) (pc2 := 19) b_17_18_1 rfl rfl ?_
      exact ov_retz (st := []) d_17_19 rfl (by omega) ⟨_, rfl, rfl, rfl, (by show 0 = tw_op (h 58 0) (h 58 1) (h 59 c) (h 60 c) (h 62 c) (h 63 c) c way ∧ (0 = 0 ∨ 0 = 1) ∧ (0 = 1 → (way = 0 ∧ c ≤ 52) ∨ (way = 1 ∧ c ≤ 47)); refine ⟨?_, by omega⟩; unfold tw_op; repeat' split; all_goals omega)⟩
abbrev P_Town_isBeyond_70_t (F : ov_H) (z : ov_Z) (h : ov_H) (c : Int) (way : Int) : Option ov_V → ov_Z → ov_H → Prop := fun r0 z' h' => ∃ r : Int, r0 = some (ov_i r) ∧ z = z' ∧ h = h' ∧ ((way = 0 ∧ (r = 0 ∧ c % 6 < (h 70 0) - 1 ∨ r = 1 ∧ (h 70 0) - 1 ≤ c % 6) ∨ ¬ way = 0 ∧ (r = 0 ∧ c / 6 < (h 70 1) - 1 ∨ r = 1 ∧ (h 70 1) - 1 ≤ c / 6)))
set_option maxHeartbeats 4000000 in
theorem c_Town_isBeyond_70_t {u : ov_U} {F : ov_H} {z : ov_Z} {h : ov_H} (d : Nat) (hd : 0 ≤ d) (U : ov_cap u) (I : ov_I F z h) (c : Int) (way : Int) (g_c : ov_g c) (g_way : ov_g way) (p0 : 0 ≤ c ∧ c ≤ 53) : ov_T u d ov_m18 [ov_r 70, ov_i c, ov_i way] z h (P_Town_isBeyond_70_t F z h c way) := by
  refine ov_en rfl (Nat.le_of_ble_eq_true rfl) ?_
  show ov_R u d ov_m18 0 [(0, ov_r 70), (1, ov_i c), (2, ov_i way)] [] z h (P_Town_isBeyond_70_t F z h c way)
  refine ov_blk (ls2 := [(0, ov_r 70), (1, ov_i c), (2, ov_i way)]) (st2 := [ov_i way]) (pc2 := 1) b_18_0_1 rfl rfl ?_
  refine ov_ifne (tgt := 25) d_18_1 (by decide) (by omega) (fun c1 => ?_) (fun c1 => ?_)
  · skip
    refine ov_blk (ls2 := [(0, ov_r 70), (1, ov_i c), (2, ov_i way)]) (st2 := [ov_i 6, ov_i c]) (pc2 := 28) b_18_25_2 rfl rfl ?_
    refine ov_idiv d_18_28 (by omega) (by omega) (by omega) ?_
    have g2 := ov_td (a := c) (b := 6) (by omega)
    refine ov_blk (ls2 := [(0, ov_r 70), (1, ov_i c), (2, ov_i way)]) (st2 := [ov_r 70, ov_i (Int.tdiv c 6)]) (pc2 := 30) b_18_29_1 rfl rfl ?_
    refine ov_getf (v := ov_i (h 70 1)) d_18_30 fl_Town_50 (zb_70 I) (zs_70 I) rfl ?_
    have g3 := rg_70_1 I
    refine ov_blk (ls2 := [(0, ov_r 70), (1, ov_i c), (2, ov_i way)]) (st2 := [ov_i ((h 70 1) - 1), ov_i (Int.tdiv c 6)]) (pc2 := 35) b_18_33_2 rfl rfl ?_
    refine ov_iclt (tgt := 42) d_18_35 (by decide) (by omega) (by omega) (fun c4 => ?_) (fun c4 => ?_)
    · skip
      refine ov_blk (ls2 := [(0, ov_r 70), (1, ov_i c), (2, ov_i way)]) (st2 := [ov_i 0]) (pc2 := 43) b_18_42_1 rfl rfl ?_
      exact ov_retz (st := []) d_18_43 rfl (by omega) ⟨_, rfl, rfl, rfl, (by show (way = 0 ∧ (0 = 0 ∧ c % 6 < (h 70 0) - 1 ∨ 0 = 1 ∧ (h 70 0) - 1 ≤ c % 6) ∨ ¬ way = 0 ∧ (0 = 0 ∧ c / 6 < (h 70 1) - 1 ∨ 0 = 1 ∧ (h 70 1) - 1 ≤ c / 6)); omega)⟩
    · skip
      refine ov_blk (ls2 := [(0, ov_r 70), (1, ov_i c), (2, ov_i way)]) (st2 := [ov_i 1]) (pc2 := 39) b_18_38_1 rfl rfl ?_
      refine ov_goto (tgt := 43) d_18_39 (by decide) ?_
      exact ov_retz (st := []) d_18_43 rfl (by omega) ⟨_, rfl, rfl, rfl, (by show (way = 0 ∧ (1 = 0 ∧ c % 6 < (h 70 0) - 1 ∨ 1 = 1 ∧ (h 70 0) - 1 ≤ c % 6) ∨ ¬ way = 0 ∧ (1 = 0 ∧ c / 6 < (h 70 1) - 1 ∨ 1 = 1 ∧ (h 70 1) - 1 ≤ c / 6)); omega)⟩
  · skip
    refine ov_blk (ls2 := [(0, ov_r 70), (1, ov_i c), (2, ov_i way)]) (st2 := [ov_i 6, ov_i c]) (pc2 := 7) b_18_4_2 rfl rfl ?_
    refine ov_irem d_18_7 (by omega) (by omega) (by omega) ?_
    have g5 := ov_tm (a := c) (b := 6) (by omega)
    have g6 := ov_tmg (a := c) (b := 6) (by omega) (by omega)
    refine ov_blk (ls2 := [(0, ov_r 70), (1, ov_i c), (2, ov_i way)]) (st2 := [ov_r 70, ov_i (Int.tmod c 6)]) (pc2 := 9) b_18_8_1 rfl rfl ?_
    refine ov_getf (v := ov_i (h 70 0)) d_18_9 fl_Town_46 (zb_70 I) (zs_70 I) rfl ?_
    have g7 := rg_70_0 I
    refine ov_blk (ls2 := [(0, ov_r 70), (1, ov_i c), (2, ov_i way)]) (st2 := [ov_i ((h 70 0) - 1), ov_i (Int.tmod c 6)]) (pc2 := 14) b_18_12_2 rfl rfl ?_
    refine ov_iclt (tgt := 21) d_18_14 (by decide) (by omega) (by omega) (fun c8 => ?_) (fun c8 => ?_)
    · skip
      refine ov_blk (ls2 := [(0, ov_r 70), (1, ov_i c), (2, ov_i way)]) (st2 := [ov_i 0]) (pc2 := 22) b_18_21_1 rfl rfl ?_
      refine ov_goto (tgt := 43) d_18_22 (by decide) ?_
      exact ov_retz (st := []) d_18_43 rfl (by omega) ⟨_, rfl, rfl, rfl, (by show (way = 0 ∧ (0 = 0 ∧ c % 6 < (h 70 0) - 1 ∨ 0 = 1 ∧ (h 70 0) - 1 ≤ c % 6) ∨ ¬ way = 0 ∧ (0 = 0 ∧ c / 6 < (h 70 1) - 1 ∨ 0 = 1 ∧ (h 70 1) - 1 ≤ c / 6)); omega)⟩
    · skip
      refine ov_blk (ls2 := [(0, ov_r 70), (1, ov_i c), (2, ov_i way)]) (st2 := [ov_i 1]) (pc2 := 18) b_18_17_1 rfl rfl ?_
      refine ov_goto (tgt := 43) d_18_18 (by decide) ?_
      exact ov_retz (st := []) d_18_43 rfl (by omega) ⟨_, rfl, rfl, rfl, (by show (way = 0 ∧ (1 = 0 ∧ c % 6 < (h 70 0) - 1 ∨ 1 = 1 ∧ (h 70 0) - 1 ≤ c % 6) ∨ ¬ way = 0 ∧ (1 = 0 ∧ c / 6 < (h 70 1) - 1 ∨ 1 = 1 ∧ (h 70 1) - 1 ≤ c / 6)); omega)⟩
abbrev P_Town_isBarred_70_t (F : ov_H) (z : ov_Z) (h : ov_H) (c : Int) (way : Int) : Option ov_V → ov_Z → ov_H → Prop := fun r0 z' h' => ∃ r : Int, r0 = some (ov_i r) ∧ z = z' ∧ h = h' ∧ ((r = 0 ∧ ov_and (ov_shr (h 75 c) way) 1 = 0 ∨ r = 1 ∧ ¬ ov_and (ov_shr (h 75 c) way) 1 = 0))
set_option maxHeartbeats 4000000 in
theorem c_Town_isBarred_70_t {u : ov_U} {F : ov_H} {z : ov_Z} {h : ov_H} (d : Nat) (hd : 0 ≤ d) (U : ov_cap u) (I : ov_I F z h) (c : Int) (way : Int) (g_c : ov_g c) (g_way : ov_g way) (p0 : 0 ≤ c ∧ c ≤ 53) : ov_T u d ov_m19 [ov_r 70, ov_i c, ov_i way] z h (P_Town_isBarred_70_t F z h c way) := by
  refine ov_en rfl (Nat.le_of_ble_eq_true rfl) ?_
  show ov_R u d ov_m19 0 [(0, ov_r 70), (1, ov_i c), (2, ov_i way)] [] z h (P_Town_isBarred_70_t F z h c way)
  refine ov_blk (ls2 := [(0, ov_r 70), (1, ov_i c), (2, ov_i way)]) (st2 := [ov_r 70]) (pc2 := 1) b_19_0_1 rfl rfl ?_
  refine ov_getf (v := ov_r 75) d_19_1 fl_Town_24 (zb_70 I) (zs_70 I) (congrArg ov_r (rg_70_6 I)) ?_
  refine ov_blk (ls2 := [(0, ov_r 70), (1, ov_i c), (2, ov_i way)]) (st2 := [ov_i c, ov_r 75]) (pc2 := 5) b_19_4_1 rfl rfl ?_
  refine ov_iald d_19_5 (zb_75 I) (zs_75 I) (by omega) ?_
  have g1 := ra_75 I c
  refine ov_blk (ls2 := [(0, ov_r 70), (1, ov_i c), (2, ov_i way)]) (st2 := [ov_i (ov_and (ov_shr (h 75 c) way) 1)]) (pc2 := 10) b_19_6_4 rfl rfl ?_
  have g2 := ov_shrg (h 75 c) way
  have g3 := ov_andg (ov_shr (h 75 c) way) 1
  have g4 := ov_and1 (ov_shr (h 75 c) way)
  refine ov_ifeq (tgt := 17) d_19_10 (by decide) (by omega) (fun c5 => ?_) (fun c5 => ?_)
  · skip
    refine ov_blk (ls2 := [(0, ov_r 70), (1, ov_i c), (2, ov_i way)]) (st2 := [ov_i 0]) (pc2 := 18) b_19_17_1 rfl rfl ?_
    exact ov_retz (st := []) d_19_18 rfl (by omega) ⟨_, rfl, rfl, rfl, (by show (0 = 0 ∧ ov_and (ov_shr (h 75 c) way) 1 = 0 ∨ 0 = 1 ∧ ¬ ov_and (ov_shr (h 75 c) way) 1 = 0); omega)⟩
  · skip
    refine ov_blk (ls2 := [(0, ov_r 70), (1, ov_i c), (2, ov_i way)]) (st2 := [ov_i 1]) (pc2 := 14) b_19_13_1 rfl rfl ?_
    refine ov_goto (tgt := 18) d_19_14 (by decide) ?_
    exact ov_retz (st := []) d_19_18 rfl (by omega) ⟨_, rfl, rfl, rfl, (by show (1 = 0 ∧ ov_and (ov_shr (h 75 c) way) 1 = 0 ∨ 1 = 1 ∧ ¬ ov_and (ov_shr (h 75 c) way) 1 = 0); omega)⟩
abbrev P_Town_opens_70_t (F : ov_H) (z : ov_Z) (h : ov_H) (c : Int) (way : Int) : Option ov_V → ov_Z → ov_H → Prop := fun r0 z' h' => ∃ r : Int, r0 = some (ov_i r) ∧ z = z' ∧ h = h' ∧ (r = tw_op (h 70 0) (h 70 1) (h 71 c) (h 72 c) (h 74 c) (h 75 c) c way ∧ (r = 0 ∨ r = 1) ∧ (r = 1 → (way = 0 ∧ c ≤ 52) ∨ (way = 1 ∧ c ≤ 47)))
set_option maxHeartbeats 4000000 in
theorem c_Town_opens_70_t {u : ov_U} {F : ov_H} {z : ov_Z} {h : ov_H} (d : Nat) (hd : 1 ≤ d) (U : ov_cap u) (I : ov_I F z h) (c : Int) (way : Int) (g_c : ov_g c) (g_way : ov_g way) (p0 : 0 ≤ c ∧ c ≤ 53) (p1 : way = 0 ∨ way = 1) : ov_T u d ov_m17 [ov_r 70, ov_i c, ov_i way] z h (P_Town_opens_70_t F z h c way) := by
  refine ov_en rfl (Nat.le_of_ble_eq_true rfl) ?_
  show ov_R u d ov_m17 0 [(0, ov_r 70), (1, ov_i c), (2, ov_i way)] [] z h (P_Town_opens_70_t F z h c way)
  have rgx0 := rg_70_0 I
  have rgx1 := rg_70_1 I
  refine ov_blk (ls2 := [(0, ov_r 70), (1, ov_i c), (2, ov_i way)]) (st2 := [ov_i way, ov_i c, ov_r 70]) (pc2 := 3) b_17_0_3 rfl rfl ?_
  refine ov_cV (as := [ov_i c, ov_i way]) (st := []) (d2 := d - 1) d_17_3 lk_Town_83 rfl (Nat.le_of_ble_eq_true rfl) (c := 9) (zb_70 I) (zs_70 I) ⟨by decide, rfl⟩ (by omega) (c_Town_isBeyond_70_t (d - 1) (by omega) U I c way (by omega) (by omega) (by omega)) ?_
  rintro _ _ _ ⟨v2, rfl, rfl, rfl, f1⟩
  show ov_R u d ov_m17 6 [(0, ov_r 70), (1, ov_i c), (2, ov_i way)] [ov_i v2] z h (P_Town_opens_70_t F z h c way)
  have f3 : (way = 0 ∧ (v2 = 0 ∧ c % 6 < (h 70 0) - 1 ∨ v2 = 1 ∧ (h 70 0) - 1 ≤ c % 6) ∨ ¬ way = 0 ∧ (v2 = 0 ∧ c / 6 < (h 70 1) - 1 ∨ v2 = 1 ∧ (h 70 1) - 1 ≤ c / 6)) := f1
  clear f1
  refine ov_ifne (tgt := 18) d_17_6 (by decide) (by omega) (fun c4 => ?_) (fun c4 => ?_)
  · skip
    refine ov_blk (ls2 := [(0, ov_r 70), (1, ov_i c), (2, ov_i way)]) (st2 := [ov_i 0]) (pc2 := 19) b_17_18_1 rfl rfl ?_
    exact ov_retz (st := []) d_17_19 rfl (by omega) ⟨_, rfl, rfl, rfl, (by show 0 = tw_op (h 70 0) (h 70 1) (h 71 c) (h 72 c) (h 74 c) (h 75 c) c way ∧ (0 = 0 ∨ 0 = 1) ∧ (0 = 1 → (way = 0 ∧ c ≤ 52) ∨ (way = 1 ∧ c ≤ 47)); refine ⟨?_, by omega⟩; unfold tw_op; repeat' split; all_goals omega)⟩
  · skip
    refine ov_blk (ls2 := [(0, ov_r 70), (1, ov_i c), (2, ov_i way)]) (st2 := [ov_i way, ov_i c, ov_r 70]) (pc2 := 12) b_17_9_3 rfl rfl ?_
    refine ov_cV (as := [ov_i c, ov_i way]) (st := []) (d2 := d - 1) d_17_12 lk_Town_86 rfl (Nat.le_of_ble_eq_true rfl) (c := 9) (zb_70 I) (zs_70 I) ⟨by decide, rfl⟩ (by omega) (c_Town_isBarred_70_t (d - 1) (by omega) U I c way (by omega) (by omega) (by omega)) ?_
    rintro _ _ _ ⟨v6, rfl, rfl, rfl, f5⟩
    show ov_R u d ov_m17 15 [(0, ov_r 70), (1, ov_i c), (2, ov_i way)] [ov_i v6] z h (P_Town_opens_70_t F z h c way)
    have f7 : (v6 = 0 ∧ ov_and (ov_shr (h 75 c) way) 1 = 0 ∨ v6 = 1 ∧ ¬ ov_and (ov_shr (h 75 c) way) 1 = 0) := f5
    clear f5
    refine ov_ifeq (tgt := 20) d_17_15 (by decide) (by omega) (fun c8 => ?_) (fun c8 => ?_)
    · skip
      refine ov_blk (ls2 := [(0, ov_r 70), (1, ov_i c), (2, ov_i way)]) (st2 := [ov_i c, ov_r 70]) (pc2 := 22) b_17_20_2 rfl rfl ?_
      refine ov_cV (as := [ov_i c]) (st := []) (d2 := d - 1) d_17_22 lk_Town_89 rfl (Nat.le_of_ble_eq_true rfl) (c := 9) (zb_70 I) (zs_70 I) ⟨by decide, rfl⟩ (by omega) (c_Town_isTimed_70_b (d - 1) (by omega) U I c (by omega) (by omega)) ?_
      rintro _ _ _ ⟨v10, rfl, rfl, rfl, f9⟩
      show ov_R u d ov_m17 25 [(0, ov_r 70), (1, ov_i c), (2, ov_i way)] [ov_i v10] z h (P_Town_opens_70_t F z h c way)
      have f11 : (v10 = 0 ∧ ¬ (h 71 c) = 0 ∧ ¬ (h 71 c) = 1 ∨ v10 = 1 ∧ ((h 71 c) = 0 ∨ (h 71 c) = 1)) := f9
      clear f9
      refine ov_ifeq (tgt := 59) d_17_25 (by decide) (by omega) (fun c12 => ?_) (fun c12 => ?_)
      · skip
        refine ov_blk (ls2 := [(0, ov_r 70), (1, ov_i c), (2, ov_i way)]) (st2 := [ov_i 1]) (pc2 := 60) b_17_59_1 rfl rfl ?_
        refine ov_goto (tgt := 64) d_17_60 (by decide) ?_
        exact ov_retz (st := []) d_17_64 rfl (by omega) ⟨_, rfl, rfl, rfl, (by show 1 = tw_op (h 70 0) (h 70 1) (h 71 c) (h 72 c) (h 74 c) (h 75 c) c way ∧ (1 = 0 ∨ 1 = 1) ∧ (1 = 1 → (way = 0 ∧ c ≤ 52) ∨ (way = 1 ∧ c ≤ 47)); refine ⟨?_, by omega⟩; unfold tw_op; repeat' split; all_goals omega)⟩
      · skip
        refine ov_blk (ls2 := [(0, ov_r 70), (1, ov_i c), (2, ov_i way)]) (st2 := [ov_i way]) (pc2 := 29) b_17_28_1 rfl rfl ?_
        refine ov_ifne (tgt := 44) d_17_29 (by decide) (by omega) (fun c13 => ?_) (fun c13 => ?_)
        · skip
          refine ov_blk (ls2 := [(0, ov_r 70), (1, ov_i c), (2, ov_i way)]) (st2 := [ov_r 70]) (pc2 := 45) b_17_44_1 rfl rfl ?_
          refine ov_getf (v := ov_r 74) d_17_45 fl_Town_21 (zb_70 I) (zs_70 I) (congrArg ov_r (rg_70_5 I)) ?_
          refine ov_blk (ls2 := [(0, ov_r 70), (1, ov_i c), (2, ov_i way)]) (st2 := [ov_i c, ov_r 74]) (pc2 := 49) b_17_48_1 rfl rfl ?_
          refine ov_iald d_17_49 (zb_74 I) (zs_74 I) (by omega) ?_
          have g14 := ra_74 I c
          refine ov_blk (ls2 := [(0, ov_r 70), (1, ov_i c), (2, ov_i way)]) (st2 := [ov_r 70, ov_i (h 74 c)]) (pc2 := 51) b_17_50_1 rfl rfl ?_
          refine ov_getf (v := ov_r 72) d_17_51 fl_Town_15 (zb_70 I) (zs_70 I) (congrArg ov_r (rg_70_3 I)) ?_
          refine ov_blk (ls2 := [(0, ov_r 70), (1, ov_i c), (2, ov_i way)]) (st2 := [ov_i c, ov_r 72, ov_i (h 74 c)]) (pc2 := 55) b_17_54_1 rfl rfl ?_
          refine ov_iald d_17_55 (zb_72 I) (zs_72 I) (by omega) ?_
          have g15 := ra_72 I c
          refine ov_icge (tgt := 63) d_17_56 (by decide) (by omega) (by omega) (fun c16 => ?_) (fun c16 => ?_)
          · skip
            refine ov_blk (ls2 := [(0, ov_r 70), (1, ov_i c), (2, ov_i way)]) (st2 := [ov_i 0]) (pc2 := 64) b_17_63_1 rfl rfl ?_
            exact ov_retz (st := []) d_17_64 rfl (by omega) ⟨_, rfl, rfl, rfl, (by show 0 = tw_op (h 70 0) (h 70 1) (h 71 c) (h 72 c) (h 74 c) (h 75 c) c way ∧ (0 = 0 ∨ 0 = 1) ∧ (0 = 1 → (way = 0 ∧ c ≤ 52) ∨ (way = 1 ∧ c ≤ 47)); refine ⟨?_, by omega⟩; unfold tw_op; repeat' split; all_goals omega)⟩
          · skip
            refine ov_blk (ls2 := [(0, ov_r 70), (1, ov_i c), (2, ov_i way)]) (st2 := [ov_i 1]) (pc2 := 60) b_17_59_1 rfl rfl ?_
            refine ov_goto (tgt := 64) d_17_60 (by decide) ?_
            exact ov_retz (st := []) d_17_64 rfl (by omega) ⟨_, rfl, rfl, rfl, (by show 1 = tw_op (h 70 0) (h 70 1) (h 71 c) (h 72 c) (h 74 c) (h 75 c) c way ∧ (1 = 0 ∨ 1 = 1) ∧ (1 = 1 → (way = 0 ∧ c ≤ 52) ∨ (way = 1 ∧ c ≤ 47)); refine ⟨?_, by omega⟩; unfold tw_op; repeat' split; all_goals omega)⟩
        · skip
          refine ov_blk (ls2 := [(0, ov_r 70), (1, ov_i c), (2, ov_i way)]) (st2 := [ov_r 70]) (pc2 := 33) b_17_32_1 rfl rfl ?_
          refine ov_getf (v := ov_r 74) d_17_33 fl_Town_21 (zb_70 I) (zs_70 I) (congrArg ov_r (rg_70_5 I)) ?_
          refine ov_blk (ls2 := [(0, ov_r 70), (1, ov_i c), (2, ov_i way)]) (st2 := [ov_i c, ov_r 74]) (pc2 := 37) b_17_36_1 rfl rfl ?_
          refine ov_iald d_17_37 (zb_74 I) (zs_74 I) (by omega) ?_
          have g17 := ra_74 I c
          refine ov_ifle (tgt := 63) d_17_38 (by decide) (by omega) (fun c18 => ?_) (fun c18 => ?_)
          · skip
            refine ov_blk (ls2 := [(0, ov_r 70), (1, ov_i c), (2, ov_i way)]) (st2 := [ov_i 0]) (pc2 := 64) b_17_63_1 rfl rfl ?_
            exact ov_retz (st := []) d_17_64 rfl (by omega) ⟨_, rfl, rfl, rfl, (by show 0 = tw_op (h 70 0) (h 70 1) (h 71 c) (h 72 c) (h 74 c) (h 75 c) c way ∧ (0 = 0 ∨ 0 = 1) ∧ (0 = 1 → (way = 0 ∧ c ≤ 52) ∨ (way = 1 ∧ c ≤ 47)); refine ⟨?_, by omega⟩; unfold tw_op; repeat' split; all_goals omega)⟩
          · skip
            refine ov_goto (tgt := 59) d_17_41 (by decide) ?_
            refine ov_blk (ls2 := [(0, ov_r 70), (1, ov_i c), (2, ov_i way)]) (st2 := [ov_i 1]) (pc2 := 60) b_17_59_1 rfl rfl ?_
            refine ov_goto (tgt := 64) d_17_60 (by decide) ?_
            exact ov_retz (st := []) d_17_64 rfl (by omega) ⟨_, rfl, rfl, rfl, (by show 1 = tw_op (h 70 0) (h 70 1) (h 71 c) (h 72 c) (h 74 c) (h 75 c) c way ∧ (1 = 0 ∨ 1 = 1) ∧ (1 = 1 → (way = 0 ∧ c ≤ 52) ∨ (way = 1 ∧ c ≤ 47)); refine ⟨?_, by omega⟩; unfold tw_op; repeat' split; all_goals omega)⟩
    · skip
      refine ov_blk (ls2 := [(0, ov_r 70), (1, ov_i c), (2, ov_i way)]) (st2 := [ov_i 0]) (pc2 := 19) b_17_18_1 rfl rfl ?_
      exact ov_retz (st := []) d_17_19 rfl (by omega) ⟨_, rfl, rfl, rfl, (by show 0 = tw_op (h 70 0) (h 70 1) (h 71 c) (h 72 c) (h 74 c) (h 75 c) c way ∧ (0 = 0 ∨ 0 = 1) ∧ (0 = 1 → (way = 0 ∧ c ≤ 52) ∨ (way = 1 ∧ c ≤ 47)); refine ⟨?_, by omega⟩; unfold tw_op; repeat' split; all_goals omega)⟩

/-! the steps of both, side by side -/
theorem st_K_cg {h h1 h2 : ov_H} (K : st_K h h1) (eC : ∀ a : Int, 0 ≤ a → a < 90 → h2 a = h1 a) : st_K h h2 := by
  unfold st_K
  rw [eC 9 (by decide) (by decide), eC 10 (by decide) (by decide), eC 11 (by decide) (by decide), eC 12 (by decide) (by decide), eC 13 (by decide) (by decide)]
  exact K
theorem st_at {h : ov_H} (S : st_R h) : h 4 0 = 6 * h 103 1 + h 103 0 ∧ h 4 1 = h 103 2 ∧ h 4 2 = h 103 3 ∧ 0 ≤ h 4 2 ∧ h 4 2 ≤ h 96 5 ∧ h 4 4 = h 103 58 ∧ h 4 5 = h 103 59 ∧ h 9 0 = h 90 20 ∧ 0 ≤ h 90 20 ∧ ∀ q : Int, 0 ≤ q → q < 54 → ov_kb (h 4 3) q = h 103 (4 + q) := by
  obtain ⟨⟨⟨a, b, c, d, e, k⟩, n, m, -⟩, ⟨s, s0, -⟩, -⟩ := S
  exact ⟨a, b, c, d, e, n, m, s, s0, k⟩
theorem st_no {h h1 h2 : ov_H} (S : st_R h) (Z : st_Z h h1) (eC : ∀ a : Int, 0 ≤ a → a < 90 → h2 a = h1 a) (e103 : h2 103 = h 103) (e104 : h2 104 = h 104) (e96 : h2 96 = h 96) (u : h2 90 20 = h 90 20) : st_R h2 :=
  st_same S (fun a a0 _ a2 => (eC a (by omega) (by omega)).trans (Z a (by omega))) e103 (fun m _ _ => congrFun e104 m) (congrFun e96 5) u
section
variable {h h1 hg h2 : ov_H} {r0 r1 r2 r3 r4 r5 r6 r7 : Int → Int}
theorem st_go_e {way run r rm : Int} (S : st_R h) (G : st_G h) (K : tw_TB (h 96) r0 r1 r2 r3 r4 r5 r6 r7) (W : ov_WT (h 96)) (gx : 0 ≤ h 103 0 ∧ h 103 0 ≤ 5) (gy : 0 ≤ h 103 1 ∧ h 103 1 ≤ 8) (gr : run = 0 ∨ run = 1) (xc : st_Xgo r0 r1 r2 r3 r4 r6 r7 h h1 way run r)
    (xm : (rm = -1 ∧ ¬ (0 ≤ way ∧ way ≤ 1 ∧ ov_cgi (hg 96) (hg 103 0) (hg 103 1) way = 1 ∧ (run = 0 ∨ ¬ (hg 96 6) = 1 ∧ ¬ (hg 103 3) = (hg 96 5))) ∧ (h2 103) = (hg 103) ∧ (h2 90 20) = (hg 90 20)) ∨ ((0 ≤ way ∧ way ≤ 1 ∧ ov_cgi (hg 96) (hg 103 0) (hg 103 1) way = 1 ∧ (run = 0 ∨ ¬ (hg 96 6) = 1 ∧ ¬ (hg 103 3) = (hg 96 5))) ∧ rm = (hg 103 2) + (ov_wm (hg 96) (6 * (hg 103 1) + (hg 103 0)) way (hg 103 2) + st_rt (hg 96) run) ∧ (h2 103) = ov_rs (ov_rs (ov_rs (ov_rs (kp_f (hg 103) (hg 90 20)) 2 ((hg 103 2) + (ov_wm (hg 96) (6 * (hg 103 1) + (hg 103 0)) way (hg 103 2) + st_rt (hg 96) run))) 0 ((hg 103 0) + (1 - way))) 1 ((hg 103 1) + way)) 3 ((hg 103 3) + run) ∧ (h2 90 20) = kp_u (hg 90 20))) (eC : ∀ a : Int, 0 ≤ a → a < 90 → h2 a = h1 a) (fk : ∀ a : Int, 5 ≤ a → a < 9 ∨ 15 ≤ a → a < 36 → h1 a = h a) (eR : ∀ b : Int, 90 ≤ b → b < 115 → hg b = h b) (m96 : h2 96 = hg 96) (m104 : h2 104 = hg 104) : r = rm ∧ st_R h2 := by
  have e96 : h2 96 = h 96 := m96.trans (eR 96 (by decide) (by decide))
  have e104 : h2 104 = h 104 := m104.trans (eR 104 (by decide) (by decide))
  rw [eR 96 (by decide) (by decide), eR 103 (by decide) (by decide), eR 90 (by decide) (by decide)] at xm
  obtain ⟨a0, a1, a2, a3, a4, -, -, -, u0, ak⟩ := st_at S
  have on := ov_TE_on K gx gy
  have wt := ov_TE_wt K W (c := h 4 0) (way := way) (s := h 4 1) (by omega)
  rw [← a0] at on
  have k1 := K.1
  have k6 := K.2.2.2.1
  have oq : (way = 0 ∧ r7 (h 4 0) % 2 = 1 ∨ way = 1 ∧ r7 (h 4 0) / 2 = 1) ↔ (0 ≤ way ∧ way ≤ 1 ∧ ov_cgi (h 96) (h 103 0) (h 103 1) way = 1) := by
    clear xc xm wt
    constructor
    · rintro (⟨q, w⟩ | ⟨q, w⟩)
      · rw [q]
        exact ⟨by decide, by decide, by omega⟩
      · rw [q]
        exact ⟨by decide, by decide, by omega⟩
    · rintro ⟨q1, q2, q3⟩
      have w : way = 0 ∨ way = 1 := by omega
      rcases w with w | w
      · rw [w] at q3
        exact Or.inl ⟨w, by omega⟩
      · rw [w] at q3
        exact Or.inr ⟨w, by omega⟩
  clear on
  rcases xc with ⟨c1, c2, c3⟩ | ⟨c1, c2, c3, c4, c5, c6, c7, c8, c9⟩
  · rcases xm with ⟨m1, -, m3, m4⟩ | ⟨⟨m1, m2, m3, m4⟩, -⟩
    · exact ⟨by omega, st_no S c3 eC m3 e104 e96 m4⟩
    · exact absurd ⟨oq.2 ⟨m1, m2, m3⟩, by omega⟩ c2
  · have c1q := oq.1 c1.1
    have c1r := c1.2
    rcases xm with ⟨-, m2, -⟩ | ⟨⟨-, -, -, m1⟩, m2, m3, m4⟩
    · exact absurd ⟨c1q.1, c1q.2.1, c1q.2.2, by omega⟩ m2
    · have v0 : h2 103 0 = h 103 0 + (1 - way) := by rw [m3, ov_rs_ne (by decide), ov_rs_ne (by decide), ov_rs_eq]
      have v1 : h2 103 1 = h 103 1 + way := by rw [m3, ov_rs_ne (by decide), ov_rs_eq]
      have v2 : h2 103 2 = rm := by
        rw [m3, ov_rs_ne (by decide), ov_rs_ne (by decide), ov_rs_ne (by decide), ov_rs_eq]
        exact m2.symm
      have v3 : h2 103 3 = h 103 3 + run := by rw [m3, ov_rs_eq]
      have ve : ∀ j : Int, 4 ≤ j → h2 103 j = kp_f (h 103) (h 90 20) j := fun j hj => by rw [m3, ov_rs_ne (by omega), ov_rs_ne (by omega), ov_rs_ne (by omega), ov_rs_ne (by omega)]
      clear m3
      rw [wt] at c3
      rw [← a0, ← a1] at m2
      generalize ov_wm (h 96) (h 4 0) way (h 4 1) = w at c3 m2
      have e : r = rm := by
        unfold st_rt at m2
        rcases c3 with ⟨g, c3⟩ | ⟨g, c3⟩
        · rw [if_neg (by omega)] at m2
          omega
        · rw [if_pos (by omega)] at m2
          split at m2 <;> omega
      clear c3 m2 wt oq k6
      have q0 : h2 4 0 = h1 4 0 := by rw [eC 4 (by decide) (by decide)]
      have q1 : h2 4 1 = h1 4 1 := by rw [eC 4 (by decide) (by decide)]
      have q2 : h2 4 2 = h1 4 2 := by rw [eC 4 (by decide) (by decide)]
      have q3 : h2 4 3 = h1 4 3 := by rw [eC 4 (by decide) (by decide)]
      refine ⟨e, st_step S G (st_K_cg c4 eC) (by rw [eC 4 (by decide) (by decide)]; exact c8) (by rw [eC 4 (by decide) (by decide)]; exact c9) (fun a b0 b1 b2 => (eC a (by omega) (by omega)).trans (fk a b0 b1 b2)) e104 (congrFun e96 5) m4 (fun j hj => ve j (by omega)) ⟨?_, ?_, ?_, by omega, by omega, fun q h0 h1 => ?_⟩⟩
      · show h2 4 0 = 6 * h2 103 1 + h2 103 0
        omega
      · show h2 4 1 = h2 103 2
        omega
      · show h2 4 2 = h2 103 3
        omega
      · rw [q3, c7, show (0 : Int) + 4 + q = 4 + q by omega, ve _ (by omega), kp_f_lo u0 (by omega)]
        exact ak q h0 h1
theorem st_stay_e {s r rm : Int} (S : st_R h) (G : st_G h) (xc : (r = -1 ∧ (s < 1 ∨ 1000 < s) ∧ st_Z h h1) ∨ (1 ≤ s ∧ s ≤ 1000 ∧ r = h 4 1 + s ∧ st_K h h1 ∧ h1 4 1 = r ∧ h1 4 0 = h 4 0 ∧ h1 4 2 = h 4 2 ∧ h1 4 3 = h 4 3 ∧ h1 4 4 = h 4 4 ∧ h1 4 5 = h 4 5))
    (xm : (rm = -1 ∧ (s < 1 ∨ 1000 < s) ∧ (h2 103) = (hg 103) ∧ (h2 90 20) = (hg 90 20)) ∨ (1 ≤ s ∧ s ≤ 1000 ∧ rm = (hg 103 2) + s ∧ (h2 103) = ov_rs (kp_f (hg 103) (hg 90 20)) 2 ((hg 103 2) + s) ∧ (h2 90 20) = kp_u (hg 90 20))) (eC : ∀ a : Int, 0 ≤ a → a < 90 → h2 a = h1 a) (fk : ∀ a : Int, 5 ≤ a → a < 9 ∨ 15 ≤ a → a < 36 → h1 a = h a) (eR : ∀ b : Int, 90 ≤ b → b < 115 → hg b = h b) (m96 : h2 96 = hg 96) (m104 : h2 104 = hg 104) : r = rm ∧ st_R h2 := by
  have e96 : h2 96 = h 96 := m96.trans (eR 96 (by decide) (by decide))
  have e104 : h2 104 = h 104 := m104.trans (eR 104 (by decide) (by decide))
  rw [eR 103 (by decide) (by decide), eR 90 (by decide) (by decide)] at xm
  obtain ⟨a0, a1, a2, a3, a4, -, -, -, u0, ak⟩ := st_at S
  rcases xc with ⟨c1, c2, c3⟩ | ⟨c1, c1b, c3, c4, c2, c5, c6, c7, c8, c9⟩
  · rcases xm with ⟨m1, -, m3, m4⟩ | ⟨m1, m2, -⟩
    · exact ⟨by omega, st_no S c3 eC m3 e104 e96 m4⟩
    · omega
  · rcases xm with ⟨-, m2, -⟩ | ⟨-, -, m2, m3, m4⟩
    · omega
    · have v0 : h2 103 0 = h 103 0 := by
        rw [m3, ov_rs_ne (by decide)]
        exact kp_f_lo u0 (by decide)
      have v1 : h2 103 1 = h 103 1 := by
        rw [m3, ov_rs_ne (by decide)]
        exact kp_f_lo u0 (by decide)
      have v2 : h2 103 2 = h 103 2 + s := by rw [m3, ov_rs_eq]
      have v3 : h2 103 3 = h 103 3 := by
        rw [m3, ov_rs_ne (by decide)]
        exact kp_f_lo u0 (by decide)
      have ve : ∀ j : Int, 4 ≤ j → h2 103 j = kp_f (h 103) (h 90 20) j := fun j hj => by rw [m3, ov_rs_ne (by omega)]
      clear m3
      have q0 : h2 4 0 = h1 4 0 := by rw [eC 4 (by decide) (by decide)]
      have q1 : h2 4 1 = h1 4 1 := by rw [eC 4 (by decide) (by decide)]
      have q2 : h2 4 2 = h1 4 2 := by rw [eC 4 (by decide) (by decide)]
      have q3 : h2 4 3 = h1 4 3 := by rw [eC 4 (by decide) (by decide)]
      refine ⟨by omega, st_step S G (st_K_cg c4 eC) (by rw [eC 4 (by decide) (by decide)]; exact c8) (by rw [eC 4 (by decide) (by decide)]; exact c9) (fun a b0 b1 b2 => (eC a (by omega) (by omega)).trans (fk a b0 b1 b2)) e104 (congrFun e96 5) m4 (fun j hj => ve j (by omega)) ⟨?_, ?_, ?_, by omega, by omega, fun q h0 h1 => ?_⟩⟩
      · show h2 4 0 = 6 * h2 103 1 + h2 103 0
        omega
      · show h2 4 1 = h2 103 2
        omega
      · show h2 4 2 = h2 103 3
        omega
      · rw [q3, c7, show (0 : Int) + 4 + q = 4 + q by omega, ve _ (by omega), kp_f_lo u0 (by omega)]
        exact ak q h0 h1
theorem st_look_e {r rm : Int} (S : st_R h) (G : st_G h) (K : tw_TB (h 96) r0 r1 r2 r3 r4 r5 r6 r7) (gx : 0 ≤ h 103 0 ∧ h 103 0 ≤ 5) (gy : 0 ≤ h 103 1 ∧ h 103 1 ≤ 8) (xc : st_Xlk r1 h h1 r)
    (xm : (rm = 0 ∧ ¬ ((hg 96 (10 + 4 * (6 * (hg 103 1) + (hg 103 0)))) = 2 ∧ ¬ (hg 103 (4 + 6 * (hg 103 1) + (hg 103 0))) = 1) ∧ (h2 103) = (hg 103) ∧ (h2 90 20) = (hg 90 20)) ∨ (rm = 1 ∧ ((hg 96 (10 + 4 * (6 * (hg 103 1) + (hg 103 0)))) = 2 ∧ ¬ (hg 103 (4 + 6 * (hg 103 1) + (hg 103 0))) = 1) ∧ (h2 103) = ov_rs (kp_f (hg 103) (hg 90 20)) (4 + 6 * (hg 103 1) + (hg 103 0)) 1 ∧ (h2 90 20) = kp_u (hg 90 20))) (eC : ∀ a : Int, 0 ≤ a → a < 90 → h2 a = h1 a) (fk : ∀ a : Int, 5 ≤ a → a < 9 ∨ 15 ≤ a → a < 36 → h1 a = h a) (eR : ∀ b : Int, 90 ≤ b → b < 115 → hg b = h b) (m96 : h2 96 = hg 96) (m104 : h2 104 = hg 104) : r = rm ∧ st_R h2 := by
  have e96 : h2 96 = h 96 := m96.trans (eR 96 (by decide) (by decide))
  have e104 : h2 104 = h 104 := m104.trans (eR 104 (by decide) (by decide))
  rw [eR 96 (by decide) (by decide), eR 103 (by decide) (by decide), eR 90 (by decide) (by decide)] at xm
  obtain ⟨a0, a1, a2, a3, a4, -, -, -, u0, ak⟩ := st_at S
  have k2 := (K.2.1 (h 4 0) (by omega) (by omega)).1
  have kk := ak (h 4 0) (by omega) (by omega)
  have k01 := kb_01 (kn := h 4 3) (q := h 4 0) (by omega) (by omega)
  rw [← a0, show 4 + 6 * h 103 1 + h 103 0 = 4 + h 4 0 by omega] at xm
  rcases xc with ⟨c1, c2, c3⟩ | ⟨c1, c2, c4, c7, c5, c2b, c6, c8, c9⟩
  · rcases xm with ⟨m1, -, m3, m4⟩ | ⟨m1, m2, -⟩
    · exact ⟨by omega, st_no S c3 eC m3 e104 e96 m4⟩
    · exact absurd ⟨by omega, by omega⟩ c2
  · rcases xm with ⟨-, m2, -⟩ | ⟨m1, -, m3, m4⟩
    · exact absurd ⟨by omega, by omega⟩ m2
    · have lo : ∀ j : Int, j < 4 → h2 103 j = h 103 j := fun j hj => by
        rw [m3, ov_rs_ne (by omega)]
        exact kp_f_lo u0 (by omega)
      have v0 := lo 0 (by decide)
      have v1 := lo 1 (by decide)
      have v2 := lo 2 (by decide)
      have v3 := lo 3 (by decide)
      have vk : ∀ q : Int, 0 ≤ q → q < 54 → h2 103 (4 + q) = if q = h 4 0 then 1 else h 103 (4 + q) := fun q h0 h1 => by
        rw [m3]
        by_cases w : q = h 4 0
        · rw [w, ov_rs_eq, if_pos rfl]
        · rw [if_neg w, ov_rs_ne (by omega)]
          exact kp_f_lo u0 (by omega)
      have ve : ∀ j : Int, 58 ≤ j → h2 103 j = kp_f (h 103) (h 90 20) j := fun j hj => by rw [m3, ov_rs_ne (by omega)]
      clear m3
      have q0 : h2 4 0 = h1 4 0 := by rw [eC 4 (by decide) (by decide)]
      have q1 : h2 4 1 = h1 4 1 := by rw [eC 4 (by decide) (by decide)]
      have q2 : h2 4 2 = h1 4 2 := by rw [eC 4 (by decide) (by decide)]
      have q3 : h2 4 3 = h1 4 3 := by rw [eC 4 (by decide) (by decide)]
      refine ⟨by omega, st_step S G (st_K_cg c4 eC) (by rw [eC 4 (by decide) (by decide)]; exact c8) (by rw [eC 4 (by decide) (by decide)]; exact c9) (fun a b0 b1 b2 => (eC a (by omega) (by omega)).trans (fk a b0 b1 b2)) e104 (congrFun e96 5) m4 ve ⟨?_, ?_, ?_, by omega, by omega, fun q h0 h1 => ?_⟩⟩
      · show h2 4 0 = 6 * h2 103 1 + h2 103 0
        omega
      · show h2 4 1 = h2 103 2
        omega
      · show h2 4 2 = h2 103 3
        omega
      · rw [q3, c7, kb_set (by omega) (by omega) h0 h1, show (0 : Int) + 4 + q = 4 + q by omega, vk q h0 h1, ak q h0 h1]
theorem st_undo_e {r rm : Int} (S : st_R h) (G : st_G h) (xc : (r = 0 ∧ h 9 0 = 0 ∧ st_Z h h1) ∨ (r = 1 ∧ ¬ h 9 0 = 0 ∧ st_B h h1))
    (xm : (rm = 0 ∧ (hg 90 20) = 0 ∧ (h2 103) = (hg 103) ∧ (h2 90 20) = (hg 90 20)) ∨ (rm = 1 ∧ ¬ (hg 90 20) = 0 ∧ (h2 103) = cp_f (hg 103) (5 + ((hg 90 20) - 1)) 0 58 ∧ (h2 90 20) = (hg 90 20) - 1)) (eC : ∀ a : Int, 0 ≤ a → a < 90 → h2 a = h1 a) (fk : ∀ a : Int, 5 ≤ a → a < 9 ∨ 10 ≤ a → a < 14 ∨ 15 ≤ a → a < 36 → h1 a = h a) (eR : ∀ b : Int, 90 ≤ b → b < 115 → hg b = h b) (m96 : h2 96 = hg 96) (m104 : h2 104 = hg 104) : r = rm ∧ st_R h2 := by
  have e96 : h2 96 = h 96 := m96.trans (eR 96 (by decide) (by decide))
  have e104 : h2 104 = h 104 := m104.trans (eR 104 (by decide) (by decide))
  rw [eR 103 (by decide) (by decide), eR 90 (by decide) (by decide)] at xm
  obtain ⟨a0, a1, a2, a3, a4, -, -, uu, u0, ak⟩ := st_at S
  rcases xc with ⟨c1, c2, c3⟩ | ⟨c1, c2, b0, b1, b2, b3, b4, b5, b6, b7⟩
  · rcases xm with ⟨m1, -, m3, m4⟩ | ⟨m1, m2, -⟩
    · exact ⟨by omega, st_no S c3 eC m3 e104 e96 m4⟩
    · omega
  · rcases xm with ⟨-, m2, -⟩ | ⟨m1, -, m3, m4⟩
    · omega
    · have q : ∀ k : Int, h2 4 k = h1 4 k := fun k => congrFun (eC 4 (by decide) (by decide)) k
      have w : ∀ k : Int, h2 9 k = h1 9 k := fun k => congrFun (eC 9 (by decide) (by decide)) k
      exact ⟨by omega, st_undo S G c2 ((w 1).trans b0) ((w 0).trans b1) ((q 0).trans b2) ((q 1).trans b3) ((q 2).trans b4) ((q 3).trans b5) ((q 4).trans b6) ((q 5).trans b7) (fun a a0 a1 a2 a3 => (eC a (by omega) (by omega)).trans (fk a a0 a1 a2 a3)) e104 (congrFun e96 5) m4 m3⟩
theorem st_tried_e {x y p t r rm : Int} (S : st_R h) (G : st_G h) (K : tw_TB (h 96) r0 r1 r2 r3 r4 r5 r6 r7) (xc : st_Xtr r0 r1 h h1 x y p t r)
    (xm : (rm = 0 ∧ ¬ (0 ≤ x ∧ x < (hg 96 0) ∧ 0 ≤ y ∧ y < (hg 96 1) ∧ (hg 96 (10 + 4 * (6 * y + x))) = 3 ∧ 0 ≤ t ∧ t ≤ 59 ∧ ¬ (hg 103 58) = 10) ∧ (h2 103) = (hg 103)) ∨ (rm = 1 ∧ (0 ≤ x ∧ x < (hg 96 0) ∧ 0 ≤ y ∧ y < (hg 96 1) ∧ (hg 96 (10 + 4 * (6 * y + x))) = 3 ∧ 0 ≤ t ∧ t ≤ 59 ∧ ¬ (hg 103 58) = 10) ∧ (h2 103) = ov_rs (ov_rs (ov_rs (ov_rs ((hg 103)) (60 + 3 * (hg 103 58)) (6 * y + x)) (60 + 3 * (hg 103 58) + 1) p) (60 + 3 * (hg 103 58) + 2) t) 58 ((hg 103 58) + 1))) (eC : ∀ a : Int, 0 ≤ a → a < 90 → h2 a = h1 a) (fk : ∀ a : Int, 7 ≤ a → a < 14 ∨ 15 ≤ a → a < 36 → h1 a = h a) (eR : ∀ b : Int, 90 ≤ b → b < 115 → hg b = h b) (m96 : h2 96 = hg 96) (m104 : h2 104 = hg 104) (m20 : h2 90 20 = hg 90 20) : r = rm ∧ st_R h2 := by
  have e96 : h2 96 = h 96 := m96.trans (eR 96 (by decide) (by decide))
  have e104 : h2 104 = h 104 := m104.trans (eR 104 (by decide) (by decide))
  have e20 : h2 90 20 = h 90 20 := m20.trans (congrFun (eR 90 (by decide) (by decide)) 20)
  rw [eR 96 (by decide) (by decide), eR 103 (by decide) (by decide)] at xm
  obtain ⟨a0, a1, a2, a3, a4, a5, a6, -, u0, ak⟩ := st_at S
  have k1 := K.1
  have k9 := K.2.2.2.2.2
  have g4 := G.1
  rcases xc with ⟨c1, c2, c3⟩ | ⟨c1, c2, ⟨d4, d0, d1, d2, d3, d5⟩, c5, z, c6, c7, c8⟩
  · rcases xm with ⟨m1, -, m3⟩ | ⟨m1, ⟨n1, n2, n3, n4, n5, n6, n7, n8⟩, -⟩
    · exact ⟨by omega, st_no S c3 eC m3 e104 e96 e20⟩
    · have k2 := (K.2.1 (6 * y + x) (by omega) (by omega)).1
      exact absurd ⟨by omega, by omega, by omega, by omega, by omega, by omega, by omega, by omega⟩ c2
  · obtain ⟨n1, n2, n3, n4, n5, n6, n7, n8⟩ := c2
    have k2 := (K.2.1 (6 * y + x) (by omega) (by omega)).1
    rcases xm with ⟨-, m2, -⟩ | ⟨m1, -, m3⟩
    · exact absurd ⟨by omega, by omega, by omega, by omega, by omega, by omega, by omega, by omega⟩ m2
    · have q : ∀ k : Int, h2 4 k = h1 4 k := fun k => congrFun (eC 4 (by decide) (by decide)) k
      exact ⟨by omega, st_tried S G n8 ((q 4).trans d4) ((q 0).trans d0) ((q 1).trans d1) ((q 2).trans d2) ((q 3).trans d3) ((q 5).trans d5) ((eC 5 (by decide) (by decide)).trans c5) ((eC 6 (by decide) (by decide)).trans c6) ⟨c7, c8⟩ ⟨n6, n7⟩ (fun a a0 a1 a2 => (eC a (by omega) (by omega)).trans (fk a a0 a1 a2)) e104 (congrFun e96 5) e20 m3⟩
theorem st_was_e {x y t r rm : Int} (S : st_R h) (G : st_G h) (K : tw_TB (h 96) r0 r1 r2 r3 r4 r5 r6 r7) (xc : st_Xwa r0 h h1 x y t r)
    (xm : (rm = 0 ∧ ¬ (0 ≤ x ∧ x < (hg 96 0) ∧ 0 ≤ y ∧ y < (hg 96 1) ∧ 0 ≤ t ∧ t ≤ 9999 ∧ ¬ (hg 103 59) = 8) ∧ (h2 103) = (hg 103)) ∨ (rm = 1 ∧ (0 ≤ x ∧ x < (hg 96 0) ∧ 0 ≤ y ∧ y < (hg 96 1) ∧ 0 ≤ t ∧ t ≤ 9999 ∧ ¬ (hg 103 59) = 8) ∧ (h2 103) = ov_rs (ov_rs (ov_rs (ov_rs ((hg 103)) (92 + 3 * (hg 103 59)) x) (92 + 3 * (hg 103 59) + 1) y) (92 + 3 * (hg 103 59) + 2) t) 59 ((hg 103 59) + 1))) (eC : ∀ a : Int, 0 ≤ a → a < 90 → h2 a = h1 a) (fk : ∀ a : Int, 5 ≤ a → a < 7 ∨ 9 ≤ a → a < 14 ∨ 15 ≤ a → a < 36 → h1 a = h a) (eR : ∀ b : Int, 90 ≤ b → b < 115 → hg b = h b) (m96 : h2 96 = hg 96) (m104 : h2 104 = hg 104) (m20 : h2 90 20 = hg 90 20) : r = rm ∧ st_R h2 := by
  have e96 : h2 96 = h 96 := m96.trans (eR 96 (by decide) (by decide))
  have e104 : h2 104 = h 104 := m104.trans (eR 104 (by decide) (by decide))
  have e20 : h2 90 20 = h 90 20 := m20.trans (congrFun (eR 90 (by decide) (by decide)) 20)
  rw [eR 96 (by decide) (by decide), eR 103 (by decide) (by decide)] at xm
  obtain ⟨a0, a1, a2, a3, a4, a5, a6, -, u0, ak⟩ := st_at S
  have k1 := K.1
  have g5 := G.2.1
  rcases xc with ⟨c1, c2, c3⟩ | ⟨c1, c2, ⟨d5, d0, d1, d2, d3, d4⟩, c5, c6⟩
  · rcases xm with ⟨m1, -, m3⟩ | ⟨m1, ⟨n1, n2, n3, n4, n5, n6, n7⟩, -⟩
    · exact ⟨by omega, st_no S c3 eC m3 e104 e96 e20⟩
    · exact absurd ⟨by omega, by omega, by omega, by omega, by omega, by omega, by omega⟩ c2
  · obtain ⟨n1, n2, n3, n4, n5, n6, n7⟩ := c2
    rcases xm with ⟨-, m2, -⟩ | ⟨m1, -, m3⟩
    · exact absurd ⟨by omega, by omega, by omega, by omega, by omega, by omega, by omega⟩ m2
    · have q : ∀ k : Int, h2 4 k = h1 4 k := fun k => congrFun (eC 4 (by decide) (by decide)) k
      have kb9 := K.2.2.2.2.2
      exact ⟨by omega, st_was S G ⟨by omega, by omega, by omega⟩ n7 ((q 5).trans d5) ((q 0).trans d0) ((q 1).trans d1) ((q 2).trans d2) ((q 3).trans d3) ((q 4).trans d4) ((eC 7 (by decide) (by decide)).trans c5) ((eC 8 (by decide) (by decide)).trans c6) (fun a a0 a1 a2 a3 => (eC a (by omega) (by omega)).trans (fk a a0 a1 a2 a3)) e104 (congrFun e96 5) e20 m3⟩
theorem st_mark_e {m b r rm : Int} (S : st_R h) (G : st_G h) (xc : (r = 0 ∧ ¬ (0 ≤ m ∧ m ≤ 3 ∧ (b = 0 ∨ h 35 m = 1)) ∧ st_Z h h1) ∨ (r = 1 ∧ (0 ≤ m ∧ m ≤ 3 ∧ (b = 0 ∨ h 35 m = 1)) ∧ st_Mk h h1 m b))
    (xm : (rm = 0 ∧ ¬ (0 ≤ m ∧ m ≤ 3 ∧ (b = 0 ∨ (hg 104 (m)) = 1)) ∧ (h2 103) = (hg 103) ∧ (h2 104) = (hg 104) ∧ (h2 90 20) = (hg 90 20)) ∨ (rm = 1 ∧ (0 ≤ m ∧ m ≤ 3 ∧ (b = 0 ∨ (hg 104 (m)) = 1)) ∧ (h2 104) = ov_rs (hg 104) m 1 ∧ (b = 0 ∧ (h2 103) = cp_f (hg 103) 0 (1 + m) 120 ∧ (h2 90 20) = (hg 90 20) ∨ b = 1 ∧ (h2 103) = cp_f (hg 103) (1 + m) 0 120 ∧ (h2 90 20) = 0))) (eC : ∀ a : Int, 0 ≤ a → a < 90 → h2 a = h1 a) (eR : ∀ b : Int, 90 ≤ b → b < 115 → hg b = h b) (m96 : h2 96 = hg 96) : r = rm ∧ st_R h2 := by
  have e96 : h2 96 = h 96 := m96.trans (eR 96 (by decide) (by decide))
  rw [eR 103 (by decide) (by decide), eR 104 (by decide) (by decide), eR 90 (by decide) (by decide)] at xm
  have L := fun q0 q1 => (S.2.2 m q0 q1).1
  rcases xc with ⟨c1, c2, c3⟩ | ⟨c1, c2, c3⟩
  · rcases xm with ⟨m1, -, m3, m4, m5⟩ | ⟨m1, ⟨n1, n2, n3⟩, -⟩
    · exact ⟨by omega, st_no S c3 eC m3 m4 e96 m5⟩
    · have l := L n1 (by omega)
      exact absurd ⟨n1, n2, by omega⟩ c2
  · obtain ⟨n1, n2, n3⟩ := c2
    have l := L n1 (by omega)
    rcases xm with ⟨-, m2, -⟩ | ⟨m1, -, m4, m5⟩
    · exact absurd ⟨n1, n2, by omega⟩ m2
    · rcases c3 with ⟨b0, c4, c5, c6⟩ | ⟨b0, c5, c6, c7, c8⟩
      · rcases m5 with ⟨-, m6, m7⟩ | ⟨b1, -⟩
        · refine ⟨by omega, st_lay S G ⟨n1, n2⟩ ((eC 35 (by decide) (by decide)).trans c4) ?_ (fun a a0 a1 a2 a3 => (eC a (by omega) (by omega)).trans (c6 a a0 a2 a3)) m4 (congrFun e96 5) m7 m6⟩
          rw [eC (15 + 5 * m) (by omega) (by omega), eC (16 + 5 * m) (by omega) (by omega), eC (17 + 5 * m) (by omega) (by omega), eC (18 + 5 * m) (by omega) (by omega), eC (19 + 5 * m) (by omega) (by omega)]
          exact c5
        · omega
      · rcases m5 with ⟨b1, -⟩ | ⟨-, m6, m7⟩
        · omega
        · have w : ∀ k : Int, h2 9 k = h1 9 k := fun k => congrFun (eC 9 (by decide) (by decide)) k
          refine ⟨by omega, st_back S G ⟨n1, n2⟩ (by omega) ?_ ((w 0).trans c6) ((w 1).trans c7) (fun a a0 a1 => (eC a (by omega) (by omega)).trans (c8 a a0 a1)) m4 (congrFun e96 5) m7 m6⟩
          rw [eC 4 (by decide) (by decide), eC 5 (by decide) (by decide), eC 6 (by decide) (by decide), eC 7 (by decide) (by decide), eC 8 (by decide) (by decide)]
          exact c5
end
/-- by the town one is in -/
theorem st_go_t {h h1 hg h2 : ov_H} {way run r rm : Int} (S : st_R h) (G : st_G h) (T : ov_HT h (h 96)) (g : h 0 10 = 58 ∨ h 0 10 = 70) (W : ov_WT (h 96)) (gx : 0 ≤ h 103 0 ∧ h 103 0 ≤ 5) (gy : 0 ≤ h 103 1 ∧ h 103 1 ≤ 8) (gr : run = 0 ∨ run = 1) (xc : (h 0 10 = 58 → st_Xgo (h 58) (h 59) (h 60) (h 61) (h 62) (h 64) (h 65) h h1 way run r) ∧ (h 0 10 = 70 → st_Xgo (h 70) (h 71) (h 72) (h 73) (h 74) (h 76) (h 77) h h1 way run r))
    (xm : (rm = -1 ∧ ¬ (0 ≤ way ∧ way ≤ 1 ∧ ov_cgi (hg 96) (hg 103 0) (hg 103 1) way = 1 ∧ (run = 0 ∨ ¬ (hg 96 6) = 1 ∧ ¬ (hg 103 3) = (hg 96 5))) ∧ (h2 103) = (hg 103) ∧ (h2 90 20) = (hg 90 20)) ∨ ((0 ≤ way ∧ way ≤ 1 ∧ ov_cgi (hg 96) (hg 103 0) (hg 103 1) way = 1 ∧ (run = 0 ∨ ¬ (hg 96 6) = 1 ∧ ¬ (hg 103 3) = (hg 96 5))) ∧ rm = (hg 103 2) + (ov_wm (hg 96) (6 * (hg 103 1) + (hg 103 0)) way (hg 103 2) + st_rt (hg 96) run) ∧ (h2 103) = ov_rs (ov_rs (ov_rs (ov_rs (kp_f (hg 103) (hg 90 20)) 2 ((hg 103 2) + (ov_wm (hg 96) (6 * (hg 103 1) + (hg 103 0)) way (hg 103 2) + st_rt (hg 96) run))) 0 ((hg 103 0) + (1 - way))) 1 ((hg 103 1) + way)) 3 ((hg 103 3) + run) ∧ (h2 90 20) = kp_u (hg 90 20))) (eC : ∀ a : Int, 0 ≤ a → a < 90 → h2 a = h1 a) (fk : ∀ a : Int, 5 ≤ a → a < 9 ∨ 15 ≤ a → a < 36 → h1 a = h a) (eR : ∀ b : Int, 90 ≤ b → b < 115 → hg b = h b) (m96 : h2 96 = hg 96) (m104 : h2 104 = hg 104) : r = rm ∧ st_R h2 := by
  rcases g with e | e
  · exact st_go_e S G (T.1 e) W gx gy gr (xc.1 e) xm eC fk eR m96 m104
  · exact st_go_e S G (T.2 e) W gx gy gr (xc.2 e) xm eC fk eR m96 m104
theorem st_look_t {h h1 hg h2 : ov_H} {r rm : Int} (S : st_R h) (G : st_G h) (T : ov_HT h (h 96)) (g : h 0 10 = 58 ∨ h 0 10 = 70) (gx : 0 ≤ h 103 0 ∧ h 103 0 ≤ 5) (gy : 0 ≤ h 103 1 ∧ h 103 1 ≤ 8) (xc : (h 0 10 = 58 → st_Xlk (h 59) h h1 r) ∧ (h 0 10 = 70 → st_Xlk (h 71) h h1 r))
    (xm : (rm = 0 ∧ ¬ ((hg 96 (10 + 4 * (6 * (hg 103 1) + (hg 103 0)))) = 2 ∧ ¬ (hg 103 (4 + 6 * (hg 103 1) + (hg 103 0))) = 1) ∧ (h2 103) = (hg 103) ∧ (h2 90 20) = (hg 90 20)) ∨ (rm = 1 ∧ ((hg 96 (10 + 4 * (6 * (hg 103 1) + (hg 103 0)))) = 2 ∧ ¬ (hg 103 (4 + 6 * (hg 103 1) + (hg 103 0))) = 1) ∧ (h2 103) = ov_rs (kp_f (hg 103) (hg 90 20)) (4 + 6 * (hg 103 1) + (hg 103 0)) 1 ∧ (h2 90 20) = kp_u (hg 90 20))) (eC : ∀ a : Int, 0 ≤ a → a < 90 → h2 a = h1 a) (fk : ∀ a : Int, 5 ≤ a → a < 9 ∨ 15 ≤ a → a < 36 → h1 a = h a) (eR : ∀ b : Int, 90 ≤ b → b < 115 → hg b = h b) (m96 : h2 96 = hg 96) (m104 : h2 104 = hg 104) : r = rm ∧ st_R h2 := by
  rcases g with e | e
  · exact st_look_e S G (T.1 e) gx gy (xc.1 e) xm eC fk eR m96 m104
  · exact st_look_e S G (T.2 e) gx gy (xc.2 e) xm eC fk eR m96 m104
theorem st_tried_t {h h1 hg h2 : ov_H} {x y p t r rm : Int} (S : st_R h) (G : st_G h) (T : ov_HT h (h 96)) (g : h 0 10 = 58 ∨ h 0 10 = 70) (xc : (h 0 10 = 58 → st_Xtr (h 58) (h 59) h h1 x y p t r) ∧ (h 0 10 = 70 → st_Xtr (h 70) (h 71) h h1 x y p t r))
    (xm : (rm = 0 ∧ ¬ (0 ≤ x ∧ x < (hg 96 0) ∧ 0 ≤ y ∧ y < (hg 96 1) ∧ (hg 96 (10 + 4 * (6 * y + x))) = 3 ∧ 0 ≤ t ∧ t ≤ 59 ∧ ¬ (hg 103 58) = 10) ∧ (h2 103) = (hg 103)) ∨ (rm = 1 ∧ (0 ≤ x ∧ x < (hg 96 0) ∧ 0 ≤ y ∧ y < (hg 96 1) ∧ (hg 96 (10 + 4 * (6 * y + x))) = 3 ∧ 0 ≤ t ∧ t ≤ 59 ∧ ¬ (hg 103 58) = 10) ∧ (h2 103) = ov_rs (ov_rs (ov_rs (ov_rs ((hg 103)) (60 + 3 * (hg 103 58)) (6 * y + x)) (60 + 3 * (hg 103 58) + 1) p) (60 + 3 * (hg 103 58) + 2) t) 58 ((hg 103 58) + 1))) (eC : ∀ a : Int, 0 ≤ a → a < 90 → h2 a = h1 a) (fk : ∀ a : Int, 7 ≤ a → a < 14 ∨ 15 ≤ a → a < 36 → h1 a = h a) (eR : ∀ b : Int, 90 ≤ b → b < 115 → hg b = h b) (m96 : h2 96 = hg 96) (m104 : h2 104 = hg 104) (m20 : h2 90 20 = hg 90 20) : r = rm ∧ st_R h2 := by
  rcases g with e | e
  · exact st_tried_e S G (T.1 e) (xc.1 e) xm eC fk eR m96 m104 m20
  · exact st_tried_e S G (T.2 e) (xc.2 e) xm eC fk eR m96 m104 m20
theorem st_was_t {h h1 hg h2 : ov_H} {x y t r rm : Int} (S : st_R h) (G : st_G h) (T : ov_HT h (h 96)) (g : h 0 10 = 58 ∨ h 0 10 = 70) (xc : (h 0 10 = 58 → st_Xwa (h 58) h h1 x y t r) ∧ (h 0 10 = 70 → st_Xwa (h 70) h h1 x y t r))
    (xm : (rm = 0 ∧ ¬ (0 ≤ x ∧ x < (hg 96 0) ∧ 0 ≤ y ∧ y < (hg 96 1) ∧ 0 ≤ t ∧ t ≤ 9999 ∧ ¬ (hg 103 59) = 8) ∧ (h2 103) = (hg 103)) ∨ (rm = 1 ∧ (0 ≤ x ∧ x < (hg 96 0) ∧ 0 ≤ y ∧ y < (hg 96 1) ∧ 0 ≤ t ∧ t ≤ 9999 ∧ ¬ (hg 103 59) = 8) ∧ (h2 103) = ov_rs (ov_rs (ov_rs (ov_rs ((hg 103)) (92 + 3 * (hg 103 59)) x) (92 + 3 * (hg 103 59) + 1) y) (92 + 3 * (hg 103 59) + 2) t) 59 ((hg 103 59) + 1))) (eC : ∀ a : Int, 0 ≤ a → a < 90 → h2 a = h1 a) (fk : ∀ a : Int, 5 ≤ a → a < 7 ∨ 9 ≤ a → a < 14 ∨ 15 ≤ a → a < 36 → h1 a = h a) (eR : ∀ b : Int, 90 ≤ b → b < 115 → hg b = h b) (m96 : h2 96 = hg 96) (m104 : h2 104 = hg 104) (m20 : h2 90 20 = hg 90 20) : r = rm ∧ st_R h2 := by
  rcases g with e | e
  · exact st_was_e S G (T.1 e) (xc.1 e) xm eC fk eR m96 m104 m20
  · exact st_was_e S G (T.2 e) (xc.2 e) xm eC fk eR m96 m104 m20
theorem st_G_of {F : ov_H} {z : ov_Z} {h : ov_H} (I : ov_I F z h) : st_G h := by
  refine ⟨rg_4_4 I, rg_4_5 I, fun m m0 m1 => ?_⟩
  have c : m = 0 ∨ m = 1 ∨ m = 2 ∨ m = 3 := by omega
  rcases c with rfl | rfl | rfl | rfl
  · exact ⟨(rg_15_4 I).2, (rg_15_5 I).2⟩
  · exact ⟨(rg_20_4 I).2, (rg_20_5 I).2⟩
  · exact ⟨(rg_25_4 I).2, (rg_25_5 I).2⟩
  · exact ⟨(rg_30_4 I).2, (rg_30_5 I).2⟩
/-- town: the state as at first, or as it was -/
theorem st_town {t : Int → Int} {m f0 r r2 : Int} {F : ov_H} {z : ov_Z} {h h1 hg h2 : ov_H} (S : st_R h) (I : ov_I F z h1) (xc : ov_XT t m r h h1) (xm : ov_XM t m f0 r2 hg h2) (er : r = r2) (eC : ∀ a : Int, 0 ≤ a → a < 90 → h2 a = h1 a) (eR : ∀ b : Int, 90 ≤ b → b < 115 → hg b = h b) (g5 : 0 ≤ h2 96 5) : st_R h2 := by
  unfold ov_XM at xm
  rw [eR 103 (by decide) (by decide), eR 104 (by decide) (by decide), eR 96 (by decide) (by decide), eR 90 (by decide) (by decide)] at xm
  rcases xc with ⟨c1, -, c3⟩ | ⟨c1, -, c3⟩
  · rcases xm with ⟨-, ⟨m1, -⟩ | ⟨-, m2, m3, -, m4, m5⟩⟩
    · exact absurd (er.trans m1) c1
    · exact st_same S (fun a a0 a1 a2 => (eC a (by omega) (by omega)).trans (c3 a (Or.inl (by omega)) ((by decide +kernel : ∀ n, n < 36 → (4 ≤ n ∧ n < 14 ∨ 15 ≤ n) → Nat.testBit 1233104336006921826919776245 n = true) a.toNat (by omega) (by omega)))) m4 m2 (m3 5 (by decide)) m5
  · rcases xm with ⟨-, ⟨-, m2, -, m4, m5, -⟩ | ⟨m1, -⟩⟩
    · unfold ov_S0 at c3
      obtain ⟨b0, b1, b2, b3, d0, d1, d2, d3, d4, d5, e9, -⟩ := c3
      have q : ∀ k : Int, h2 4 k = h1 4 k := fun k => congrFun (eC 4 (by decide) (by decide)) k
      have q9 : ∀ k : Int, h2 9 k = h1 9 k := fun k => congrFun (eC 9 (by decide) (by decide)) k
      have w : ∀ k : Int, h2 35 k = h1 35 k := fun k => congrFun (eC 35 (by decide) (by decide)) k
      have t9 := rg_9_1 I
      refine st_begin (fun k k0 k1 => ?_) ((q 0).trans d0) ((q 1).trans d1) ((q 2).trans d2) ((q 3).trans d3) ((q 4).trans d4) ((q 5).trans d5) ((q9 0).trans e9) (by rw [q9 1]; omega) m2 m4 m5 g5
      have c : k = 0 ∨ k = 1 ∨ k = 2 ∨ k = 3 := by omega
      rw [w]
      rcases c with rfl | rfl | rfl | rfl
      · exact b0
      · exact b1
      · exact b2
      · exact b3
    · omega

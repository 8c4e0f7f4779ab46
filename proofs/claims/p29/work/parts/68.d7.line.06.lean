abbrev P_fMo_readLine_90 (F : ov_H × ov_Z) (z : ov_Z) (h : ov_H) (t : Int → Int) (m : Int) (N : Int) (p : Int) (A : Int → Int) : Option ov_V → ov_Z → ov_H → Prop := fun r0 z' h' => r0 = none ∧ ov_N F z' h' ∧ (∀ a : Int, a ≠ 90 ∧ (a < 96 ∨ 99 < a) → h' a = h a) ∧ (∀ k : Int, k ≠ 7 → k ≠ 8 → k ≠ 13 → k ≠ 15 → (h' 90) k = (h 90) k) ∧ ((∃ f : Int, ∃ q : Int, ((h' 90 8) = f ∧ 1 ≤ f ∧ (h 90 7) ≤ (h' 90 7) ∧ (h' 90 7) ≤ N) ∧ (pt_EL t m A p f q)) ∨ (∃ q : Int, ((h' 90 8) = 0 ∧ (h 90 7) ≤ (h' 90 7) ∧ (h' 90 7) ≤ N ∧ 0 ≤ (h' 90 13) ∧ (h' 90 13) ≤ (h' 90 7) ∧ (h' 93 ((h' 90 7))) = q) ∧ (pt_EL t m A p 0 q) ∧ (pt_MR t m (pt_LA t m A p) (h' 96) (h' 90 15) (h' 99))))
set_option maxHeartbeats 4000000 in
theorem c_fMo_readLine_90 {u : ov_U} {F : ov_H × ov_Z} (t : Int → Int) (m : Int) (N : Int) (p : Int) (A : Int → Int) {z : ov_Z} {h : ov_H} (d : Nat) (hd : 41 ≤ d) (U : ov_cap u) (I : ov_N F z h) (p0 : 0 ≤ (h 90 7) ∧ (h 90 7) ≤ N) (p1 : (h 93 ((h 90 7))) = p) (p2 : 0 ≤ (h 90 8)) (p3 : (h 90 8) = 0) (p4 : 0 ≤ (h 90 13) ∧ (h 90 13) ≤ (h 90 7)) (mt : pt_MT t m (h 92) (h 93) (h 94) N) (wd : pt_WD (h 95)) (mr : pt_MR t m A (h 96) (h 90 15) (h 99)) : ov_T u d ov_m218 [ov_r 90] z h (P_fMo_readLine_90 F z h t m N p A) := by
  refine ov_en rfl (Nat.le_of_ble_eq_true rfl) ?_
  show ov_R u d ov_m218 0 [(0, ov_r 90)] [] z h (P_fMo_readLine_90 F z h t m N p A)
  have ma := pt_MT_at mt (k := h 90 7) (by omega)
  rw [p1] at ma
  have mp := ma.2.1
  have m2 := ma.2.2.1
  have m3 := ma.2.2.2
  have mc := pt_cm_f (t := t) (m := m) (p := p)
  have mN := mt.1.2.1
  clear ma
  have rA := pt_MR_r mr
  refine ov_blk (ls2 := [(0, ov_r 90)]) (st2 := [ov_i 1, ov_r 90]) (pc2 := 2) b_218_0_2 rfl rfl ?_
  refine ov_cV (as := [ov_i 1]) (st := []) (d2 := d - 1) d_218_2 lk_Mo_189 rfl (Nat.le_of_ble_eq_true rfl) (c := 1) (zb_90 I) (zs_90 I) ⟨by decide, rfl⟩ (by omega) (c_fMo_isWord_90 t m N p 465624852596 (d - 1) (by omega) U I 1 (by omega) (by show 0 ≤ (h 90 7) ∧ (h 90 7) ≤ N; omega) (by show (h 93 ((h 90 7))) = p; omega) (by show 0 ≤ (h 90 8); omega) (by show 0 ≤ (1 : Int) ∧ (1 : Int) ≤ 21; omega) mt wd (by decide +kernel)) ?_
  rintro _ _ _ ⟨v1, rfl, rfl, rfl, y2⟩
  rcases y2 with ⟨rfl, f3⟩ | ⟨rfl, f4⟩
  · skip
    show ov_R u d ov_m218 5 [(0, ov_r 90)] [ov_i 0] z h (P_fMo_readLine_90 F z h t m N p A)
    have f5 : (h 90 8) ≠ 0 ∨ pt_iw t m p (465624852596 : Int) = 0 := f3
    clear f3
    refine ov_ifeq (tgt := 15) d_218_5 (by decide) (by omega) (fun c6 => ?_) (fun c6 => ?_)
    · skip
      refine ov_blk (ls2 := [(0, ov_r 90)]) (st2 := [ov_i 2, ov_r 90]) (pc2 := 17) b_218_15_2 rfl rfl ?_
      refine ov_cV (as := [ov_i 2]) (st := []) (d2 := d - 1) d_218_17 lk_Mo_189 rfl (Nat.le_of_ble_eq_true rfl) (c := 1) (zb_90 I) (zs_90 I) ⟨by decide, rfl⟩ (by omega) (c_fMo_isWord_90 t m N p 6447474 (d - 1) (by omega) U I 2 (by omega) (by show 0 ≤ (h 90 7) ∧ (h 90 7) ≤ N; omega) (by show (h 93 ((h 90 7))) = p; omega) (by show 0 ≤ (h 90 8); omega) (by show 0 ≤ (2 : Int) ∧ (2 : Int) ≤ 21; omega) mt wd (by decide +kernel)) ?_
      rintro _ _ _ ⟨v7, rfl, rfl, rfl, y8⟩
      rcases y8 with ⟨rfl, f9⟩ | ⟨rfl, f10⟩
      · skip
        show ov_R u d ov_m218 20 [(0, ov_r 90)] [ov_i 0] z h (P_fMo_readLine_90 F z h t m N p A)
        have f11 : (h 90 8) ≠ 0 ∨ pt_iw t m p (6447474 : Int) = 0 := f9
        clear f9
        refine ov_ifeq (tgt := 30) d_218_20 (by decide) (by omega) (fun c12 => ?_) (fun c12 => ?_)
        · skip
          refine ov_blk (ls2 := [(0, ov_r 90)]) (st2 := [ov_i 3, ov_r 90]) (pc2 := 32) b_218_30_2 rfl rfl ?_
          refine ov_cV (as := [ov_i 3]) (st := []) (d2 := d - 1) d_218_32 lk_Mo_189 rfl (Nat.le_of_ble_eq_true rfl) (c := 1) (zb_90 I) (zs_90 I) ⟨by decide, rfl⟩ (by omega) (c_fMo_isWord_90 t m N p 1920298085 (d - 1) (by omega) U I 3 (by omega) (by show 0 ≤ (h 90 7) ∧ (h 90 7) ≤ N; omega) (by show (h 93 ((h 90 7))) = p; omega) (by show 0 ≤ (h 90 8); omega) (by show 0 ≤ (3 : Int) ∧ (3 : Int) ≤ 21; omega) mt wd (by decide +kernel)) ?_
          rintro _ _ _ ⟨v13, rfl, rfl, rfl, y14⟩
          rcases y14 with ⟨rfl, f15⟩ | ⟨rfl, f16⟩
          · skip
            show ov_R u d ov_m218 35 [(0, ov_r 90)] [ov_i 0] z h (P_fMo_readLine_90 F z h t m N p A)
            have f17 : (h 90 8) ≠ 0 ∨ pt_iw t m p (1920298085 : Int) = 0 := f15
            clear f15
            refine ov_ifeq (tgt := 45) d_218_35 (by decide) (by omega) (fun c18 => ?_) (fun c18 => ?_)
            · skip
              have hk : pt_lk t m p < 0 ∨ 3 ≤ pt_lk t m p := by unfold pt_lk; rw [if_neg (by omega), if_neg (by omega), if_neg (by omega)]; (repeat' split) <;> omega
              refine ov_blk (ls2 := [(0, ov_r 90)]) (st2 := [ov_r 90]) (pc2 := 46) b_218_45_1 rfl rfl ?_
              refine ov_cV (as := []) (st := []) (d2 := d - 1) d_218_46 lk_Mo_229 rfl (Nat.le_of_ble_eq_true rfl) (c := 1) (zb_90 I) (zs_90 I) ⟨by decide, rfl⟩ (by omega) (c_fMo_readOnce_90 t m N p A (d - 1) (by omega) U I (by show 0 ≤ (h 90 7) ∧ (h 90 7) ≤ N; omega) (by show (h 93 ((h 90 7))) = p; omega) (by show 0 ≤ (h 90 8); omega) (by show (h 90 8) = 0; omega) (by show 0 ≤ (h 90 13) ∧ (h 90 13) ≤ (h 90 7); omega) (by show pt_lk t m p < 0 ∨ 3 ≤ pt_lk t m p; omega) mt wd mr) ?_
              rintro _ z19 h20 ⟨rfl, I21, y22, y23, y24⟩
              have E25 : h20 92 = h 92 := Eq.trans (y22 92 (by decide)) (show h 92 = h 92 from rfl)
              have E26 : h20 93 = h 93 := Eq.trans (y22 93 (by decide)) (show h 93 = h 93 from rfl)
              have E27 : h20 94 = h 94 := Eq.trans (y22 94 (by decide)) (show h 94 = h 94 from rfl)
              have E28 : h20 95 = h 95 := Eq.trans (y22 95 (by decide)) (show h 95 = h 95 from rfl)
              have E29 : h20 99 = h 99 := Eq.trans (y22 99 (by decide)) (show h 99 = h 99 from rfl)
              have fr30 : ∀ a : Int, a ≠ 90 ∧ (a < 96 ∨ 99 < a) → h20 a = h a := fun a ca => Eq.trans (y22 a (by omega)) rfl
              have y23_ : ∀ k : Int, k ≠ 7 → k ≠ 8 → k ≠ 15 → (h20 90) k = (h 90) k := y23
              have rk31 : ∀ k : Int, k ≠ 7 → k ≠ 8 → k ≠ 13 → k ≠ 15 → h20 90 k = h 90 k := fun k n0 n1 n2 n3 => Eq.trans (y23_ k n0 n1 n3) rfl
              have g32 : h20 90 2 = (h 90 2) := y23_ 2 (by decide) (by decide) (by decide)
              have g33 : h20 90 3 = (h 90 3) := y23_ 3 (by decide) (by decide) (by decide)
              have g34 : h20 90 13 = (h 90 13) := y23_ 13 (by decide) (by decide) (by decide)
              rcases y24 with ⟨w35, w36, f37, y38⟩ | ⟨w39, f40, y41, y42⟩
              · skip
                show ov_R u d ov_m218 49 [(0, ov_r 90)] [] z19 h20 (P_fMo_readLine_90 F z h t m N p A)
                have f43 : (h20 90 8) = w35 ∧ 1 ≤ w35 ∧ (h 90 7) ≤ (h20 90 7) ∧ (h20 90 7) ≤ N := f37
                clear f37
                have y38_ : pt_EL t m A p w35 w36 := y38
                exact ov_retv (st := []) d_218_49 rfl ⟨rfl, I21, (fun a ca => (fr30 a ca)), (fun k n0 n1 n2 n3 => (rk31 k n0 n1 n2 n3)), (Or.inl ⟨w35, w36, (by show (h20 90 8) = w35 ∧ 1 ≤ w35 ∧ (h 90 7) ≤ (h20 90 7) ∧ (h20 90 7) ≤ N; omega), y38_⟩)⟩
              · skip
                show ov_R u d ov_m218 49 [(0, ov_r 90)] [] z19 h20 (P_fMo_readLine_90 F z h t m N p A)
                have f44 : (h20 90 8) = 0 ∧ (h 90 7) ≤ (h20 90 7) ∧ (h20 90 7) ≤ N ∧ 0 ≤ (h20 90 13) ∧ (h20 90 13) ≤ (h20 90 7) ∧ (h20 93 ((h20 90 7))) = w39 := f40
                clear f40
                have y41_ : pt_EL t m A p 0 w39 := y41
                have y42_ : pt_MR t m (pt_LA t m A p) (h20 96) (h20 90 15) (h20 99) := y42
                exact ov_retv (st := []) d_218_49 rfl ⟨rfl, I21, (fun a ca => (fr30 a ca)), (fun k n0 n1 n2 n3 => (rk31 k n0 n1 n2 n3)), (Or.inr ⟨w39, (by show (h20 90 8) = 0 ∧ (h 90 7) ≤ (h20 90 7) ∧ (h20 90 7) ≤ N ∧ 0 ≤ (h20 90 13) ∧ (h20 90 13) ≤ (h20 90 7) ∧ (h20 93 ((h20 90 7))) = w39; omega), y41_, y42_⟩)⟩
            · omega
          · skip
            show ov_R u d ov_m218 35 [(0, ov_r 90)] [ov_i 1] z h (P_fMo_readLine_90 F z h t m N p A)
            have f45 : (h 90 8) = 0 ∧ pt_iw t m p (1920298085 : Int) = 1 ∧ pt_ty t m p = 2 := f16
            clear f16
            refine ov_ifeq (tgt := 45) d_218_35 (by decide) (by omega) (fun c46 => ?_) (fun c46 => ?_)
            · omega
            · skip
              have hk : pt_lk t m p = 2 := by unfold pt_lk; rw [if_neg (by omega), if_neg (by omega), if_pos (by omega)]
              have ty0 : pt_ty t m p = 2 := by omega
              refine ov_blk (ls2 := [(0, ov_r 90)]) (st2 := [ov_r 90]) (pc2 := 39) b_218_38_1 rfl rfl ?_
              refine ov_cV (as := []) (st := []) (d2 := d - 1) d_218_39 lk_Mo_226 rfl (Nat.le_of_ble_eq_true rfl) (c := 1) (zb_90 I) (zs_90 I) ⟨by decide, rfl⟩ (by omega) (c_fMo_readRule_90 t m N p A (d - 1) (by omega) U I (by show 0 ≤ (h 90 7) ∧ (h 90 7) ≤ N; omega) (by show (h 93 ((h 90 7))) = p; omega) (by show 0 ≤ (h 90 8); omega) (by show (h 90 8) = 0; omega) (by show 0 ≤ (h 90 13) ∧ (h 90 13) ≤ (h 90 7); omega) (by show pt_ty t m p = 2; omega) mt wd mr) ?_
              rintro _ z47 h48 ⟨rfl, I49, y50, y51, y52⟩
              have E53 : h48 92 = h 92 := Eq.trans (y50 92 (by decide)) (show h 92 = h 92 from rfl)
              have E54 : h48 93 = h 93 := Eq.trans (y50 93 (by decide)) (show h 93 = h 93 from rfl)
              have E55 : h48 94 = h 94 := Eq.trans (y50 94 (by decide)) (show h 94 = h 94 from rfl)
              have E56 : h48 95 = h 95 := Eq.trans (y50 95 (by decide)) (show h 95 = h 95 from rfl)
              have fr57 : ∀ a : Int, a ≠ 90 ∧ (a < 96 ∨ 99 < a) → h48 a = h a := fun a ca => Eq.trans (y50 a (by omega)) rfl
              have y51_ : ∀ k : Int, k ≠ 7 → k ≠ 8 → k ≠ 13 → (h48 90) k = (h 90) k := y51
              have rk58 : ∀ k : Int, k ≠ 7 → k ≠ 8 → k ≠ 13 → k ≠ 15 → h48 90 k = h 90 k := fun k n0 n1 n2 n3 => Eq.trans (y51_ k n0 n1 n2) rfl
              have g59 : h48 90 2 = (h 90 2) := y51_ 2 (by decide) (by decide) (by decide)
              have g60 : h48 90 3 = (h 90 3) := y51_ 3 (by decide) (by decide) (by decide)
              have g61 : h48 90 15 = (h 90 15) := y51_ 15 (by decide) (by decide) (by decide)
              rcases y52 with f62 | ⟨w63, w64, f65, y66⟩ | ⟨w67, f68, y69, y70⟩
              · skip
                show ov_R u d ov_m218 42 [(0, ov_r 90)] [] z47 h48 (P_fMo_readLine_90 F z h t m N p A)
                have f71 : (h48 90 8) = (pt_ruF t m A p) ∧ 1 ≤ (h48 90 8) ∧ (h 90 7) ≤ (h48 90 7) ∧ (h48 90 7) ≤ N := f62
                clear f62
                refine ov_goto (tgt := 49) d_218_42 (by decide) ?_
                exact ov_retv (st := []) d_218_49 rfl ⟨rfl, I49, (fun a ca => (fr57 a ca)), (fun k n0 n1 n2 n3 => (rk58 k n0 n1 n2 n3)), (Or.inl ⟨(pt_ruF t m A p), p, (by show (h48 90 8) = (pt_ruF t m A p) ∧ 1 ≤ (pt_ruF t m A p) ∧ (h 90 7) ≤ (h48 90 7) ∧ (h48 90 7) ≤ N; omega), (Or.inr (Or.inr (Or.inl ⟨hk, by omega, rfl, rfl⟩)))⟩)⟩
              · skip
                show ov_R u d ov_m218 42 [(0, ov_r 90)] [] z47 h48 (P_fMo_readLine_90 F z h t m N p A)
                have f72 : (pt_ruF t m A p) = 0 ∧ (h48 90 8) = w63 ∧ 1 ≤ w63 ∧ (h 90 7) ≤ (h48 90 7) ∧ (h48 90 7) ≤ N := f65
                clear f65
                have y66_ : pt_EV t m 6 0 (pt_nt t m (pt_nt t m p)) w63 w64 := y66
                refine ov_goto (tgt := 49) d_218_42 (by decide) ?_
                exact ov_retv (st := []) d_218_49 rfl ⟨rfl, I49, (fun a ca => (fr57 a ca)), (fun k n0 n1 n2 n3 => (rk58 k n0 n1 n2 n3)), (Or.inl ⟨w63, w64, (by show (h48 90 8) = w63 ∧ 1 ≤ w63 ∧ (h 90 7) ≤ (h48 90 7) ∧ (h48 90 7) ≤ N; omega), (Or.inr (Or.inr (Or.inr (Or.inl ⟨hk, by omega, y66_⟩))))⟩)⟩
              · skip
                show ov_R u d ov_m218 42 [(0, ov_r 90)] [] z47 h48 (P_fMo_readLine_90 F z h t m N p A)
                have f73 : (pt_ruF t m A p) = 0 ∧ (h48 90 8) = 0 ∧ (h 90 7) ≤ (h48 90 7) ∧ (h48 90 7) ≤ N ∧ 0 ≤ (h48 90 13) ∧ (h48 90 13) ≤ (h48 90 7) ∧ (h48 93 ((h48 90 7))) = w67 := f68
                clear f68
                have y69_ : pt_EV t m 6 0 (pt_nt t m (pt_nt t m p)) 0 w67 := y69
                have y70_ : pt_MR t m (pt_ruA t m A p) (h48 96) (h48 90 15) (h48 99) := y70
                refine ov_goto (tgt := 49) d_218_42 (by decide) ?_
                have hA : pt_LA t m A p = pt_ruA t m A p := by unfold pt_LA; rw [if_neg (by omega), if_neg (by omega), if_pos hk]
                exact ov_retv (st := []) d_218_49 rfl ⟨rfl, I49, (fun a ca => (fr57 a ca)), (fun k n0 n1 n2 n3 => (rk58 k n0 n1 n2 n3)), (Or.inr ⟨w67, (by show (h48 90 8) = 0 ∧ (h 90 7) ≤ (h48 90 7) ∧ (h48 90 7) ≤ N ∧ 0 ≤ (h48 90 13) ∧ (h48 90 13) ≤ (h48 90 7) ∧ (h48 93 ((h48 90 7))) = w67; omega), (Or.inr (Or.inr (Or.inr (Or.inl ⟨hk, by omega, y69_⟩)))), (by rw [hA]; exact y70_)⟩)⟩
        · omega
      · skip
        show ov_R u d ov_m218 20 [(0, ov_r 90)] [ov_i 1] z h (P_fMo_readLine_90 F z h t m N p A)
        have f74 : (h 90 8) = 0 ∧ pt_iw t m p (6447474 : Int) = 1 ∧ pt_ty t m p = 2 := f10
        clear f10
        refine ov_ifeq (tgt := 30) d_218_20 (by decide) (by omega) (fun c75 => ?_) (fun c75 => ?_)
        · omega
        · skip
          have hk : pt_lk t m p = 1 := by unfold pt_lk; rw [if_neg (by omega), if_pos (by omega)]
          have ty0 : pt_ty t m p = 2 := by omega
          refine ov_blk (ls2 := [(0, ov_r 90)]) (st2 := [ov_r 90]) (pc2 := 24) b_218_23_1 rfl rfl ?_
          refine ov_cV (as := []) (st := []) (d2 := d - 1) d_218_24 lk_Mo_223 rfl (Nat.le_of_ble_eq_true rfl) (c := 1) (zb_90 I) (zs_90 I) ⟨by decide, rfl⟩ (by omega) (c_fMo_readBar_90 t m N p A (d - 1) (by omega) U I (by show 0 ≤ (h 90 7) ∧ (h 90 7) ≤ N; omega) (by show (h 93 ((h 90 7))) = p; omega) (by show 0 ≤ (h 90 8); omega) (by show (h 90 8) = 0; omega) (by show 0 ≤ (h 90 13) ∧ (h 90 13) ≤ (h 90 7); omega) (by show pt_ty t m p = 2; omega) mt wd mr) ?_
          rintro _ z76 h77 ⟨rfl, I78, y79, y80, y81⟩
          have E82 : h77 92 = h 92 := Eq.trans (y79 92 (by decide)) (show h 92 = h 92 from rfl)
          have E83 : h77 93 = h 93 := Eq.trans (y79 93 (by decide)) (show h 93 = h 93 from rfl)
          have E84 : h77 94 = h 94 := Eq.trans (y79 94 (by decide)) (show h 94 = h 94 from rfl)
          have E85 : h77 95 = h 95 := Eq.trans (y79 95 (by decide)) (show h 95 = h 95 from rfl)
          have E86 : h77 99 = h 99 := Eq.trans (y79 99 (by decide)) (show h 99 = h 99 from rfl)
          have fr87 : ∀ a : Int, a ≠ 90 ∧ (a < 96 ∨ 99 < a) → h77 a = h a := fun a ca => Eq.trans (y79 a (by omega)) rfl
          have y80_ : ∀ k : Int, k ≠ 7 → k ≠ 8 → (h77 90) k = (h 90) k := y80
          have rk88 : ∀ k : Int, k ≠ 7 → k ≠ 8 → k ≠ 13 → k ≠ 15 → h77 90 k = h 90 k := fun k n0 n1 n2 n3 => Eq.trans (y80_ k n0 n1) rfl
          have g89 : h77 90 2 = (h 90 2) := y80_ 2 (by decide) (by decide)
          have g90 : h77 90 3 = (h 90 3) := y80_ 3 (by decide) (by decide)
          have g91 : h77 90 13 = (h 90 13) := y80_ 13 (by decide) (by decide)
          have g92 : h77 90 15 = (h 90 15) := y80_ 15 (by decide) (by decide)
          rcases y81 with f93 | ⟨f94, y95⟩
          · skip
            show ov_R u d ov_m218 27 [(0, ov_r 90)] [] z76 h77 (P_fMo_readLine_90 F z h t m N p A)
            have f96 : (h77 90 8) = (pt_brF t m A p) ∧ 1 ≤ (h77 90 8) ∧ (h 90 7) ≤ (h77 90 7) ∧ (h77 90 7) ≤ N := f93
            clear f93
            refine ov_goto (tgt := 49) d_218_27 (by decide) ?_
            exact ov_retv (st := []) d_218_49 rfl ⟨rfl, I78, (fun a ca => (fr87 a ca)), (fun k n0 n1 n2 n3 => (rk88 k n0 n1 n2 n3)), (Or.inl ⟨(pt_brF t m A p), (pt_nt t m (pt_nt t m (pt_nt t m (pt_nt t m p)))), (by show (h77 90 8) = (pt_brF t m A p) ∧ 1 ≤ (pt_brF t m A p) ∧ (h 90 7) ≤ (h77 90 7) ∧ (h77 90 7) ≤ N; omega), (Or.inr (Or.inl ⟨hk, by omega, rfl⟩))⟩)⟩
          · skip
            show ov_R u d ov_m218 27 [(0, ov_r 90)] [] z76 h77 (P_fMo_readLine_90 F z h t m N p A)
            have f97 : (pt_brF t m A p) = 0 ∧ (h77 90 8) = 0 ∧ (h 90 7) ≤ (h77 90 7) ∧ (h77 90 7) ≤ N ∧ 0 ≤ (h77 90 13) ∧ (h77 90 13) ≤ (h77 90 7) ∧ (h77 93 ((h77 90 7))) = (pt_nt t m (pt_nt t m (pt_nt t m (pt_nt t m p)))) := f94
            clear f94
            have y95_ : pt_MR t m (pt_brA t m A p) (h77 96) (h77 90 15) (h77 99) := y95
            refine ov_goto (tgt := 49) d_218_27 (by decide) ?_
            have hA : pt_LA t m A p = pt_brA t m A p := by unfold pt_LA; rw [if_neg (by omega), if_pos hk]
            exact ov_retv (st := []) d_218_49 rfl ⟨rfl, I78, (fun a ca => (fr87 a ca)), (fun k n0 n1 n2 n3 => (rk88 k n0 n1 n2 n3)), (Or.inr ⟨(pt_nt t m (pt_nt t m (pt_nt t m (pt_nt t m p)))), (by show (h77 90 8) = 0 ∧ (h 90 7) ≤ (h77 90 7) ∧ (h77 90 7) ≤ N ∧ 0 ≤ (h77 90 13) ∧ (h77 90 13) ≤ (h77 90 7) ∧ (h77 93 ((h77 90 7))) = (pt_nt t m (pt_nt t m (pt_nt t m (pt_nt t m p)))); omega), (Or.inr (Or.inl ⟨hk, by omega, rfl⟩)), (by rw [hA]; exact y95_)⟩)⟩
    · omega
  · skip
    show ov_R u d ov_m218 5 [(0, ov_r 90)] [ov_i 1] z h (P_fMo_readLine_90 F z h t m N p A)
    have f98 : (h 90 8) = 0 ∧ pt_iw t m p (465624852596 : Int) = 1 ∧ pt_ty t m p = 2 := f4
    clear f4
    refine ov_ifeq (tgt := 15) d_218_5 (by decide) (by omega) (fun c99 => ?_) (fun c99 => ?_)
    · omega
    · skip
      have hk : pt_lk t m p = 0 := by unfold pt_lk; rw [if_pos (by omega)]
      have ty0 : pt_ty t m p = 2 := by omega
      refine ov_blk (ls2 := [(0, ov_r 90)]) (st2 := [ov_r 90]) (pc2 := 9) b_218_8_1 rfl rfl ?_
      refine ov_cV (as := []) (st := []) (d2 := d - 1) d_218_9 lk_Mo_220 rfl (Nat.le_of_ble_eq_true rfl) (c := 1) (zb_90 I) (zs_90 I) ⟨by decide, rfl⟩ (by omega) (c_fMo_readLight_90 t m N p A (d - 1) (by omega) U I (by show 0 ≤ (h 90 7) ∧ (h 90 7) ≤ N; omega) (by show (h 93 ((h 90 7))) = p; omega) (by show 0 ≤ (h 90 8); omega) (by show (h 90 8) = 0; omega) (by show 0 ≤ (h 90 13) ∧ (h 90 13) ≤ (h 90 7); omega) (by show pt_ty t m p = 2; omega) mt wd mr) ?_
      rintro _ z100 h101 ⟨rfl, I102, y103, y104, y105⟩
      have E106 : h101 92 = h 92 := Eq.trans (y103 92 (by decide)) (show h 92 = h 92 from rfl)
      have E107 : h101 93 = h 93 := Eq.trans (y103 93 (by decide)) (show h 93 = h 93 from rfl)
      have E108 : h101 94 = h 94 := Eq.trans (y103 94 (by decide)) (show h 94 = h 94 from rfl)
      have E109 : h101 95 = h 95 := Eq.trans (y103 95 (by decide)) (show h 95 = h 95 from rfl)
      have E110 : h101 99 = h 99 := Eq.trans (y103 99 (by decide)) (show h 99 = h 99 from rfl)
      have fr111 : ∀ a : Int, a ≠ 90 ∧ (a < 96 ∨ 99 < a) → h101 a = h a := fun a ca => Eq.trans (y103 a (by omega)) rfl
      have y104_ : ∀ k : Int, k ≠ 7 → k ≠ 8 → (h101 90) k = (h 90) k := y104
      have rk112 : ∀ k : Int, k ≠ 7 → k ≠ 8 → k ≠ 13 → k ≠ 15 → h101 90 k = h 90 k := fun k n0 n1 n2 n3 => Eq.trans (y104_ k n0 n1) rfl
      have g113 : h101 90 2 = (h 90 2) := y104_ 2 (by decide) (by decide)
      have g114 : h101 90 3 = (h 90 3) := y104_ 3 (by decide) (by decide)
      have g115 : h101 90 13 = (h 90 13) := y104_ 13 (by decide) (by decide)
      have g116 : h101 90 15 = (h 90 15) := y104_ 15 (by decide) (by decide)
      rcases y105 with f117 | ⟨f118, y119⟩
      · skip
        show ov_R u d ov_m218 12 [(0, ov_r 90)] [] z100 h101 (P_fMo_readLine_90 F z h t m N p A)
        have f120 : (h101 90 8) = (pt_liF t m A p) ∧ 1 ≤ (h101 90 8) ∧ (h 90 7) ≤ (h101 90 7) ∧ (h101 90 7) ≤ N := f117
        clear f117
        refine ov_goto (tgt := 49) d_218_12 (by decide) ?_
        exact ov_retv (st := []) d_218_49 rfl ⟨rfl, I102, (fun a ca => (fr111 a ca)), (fun k n0 n1 n2 n3 => (rk112 k n0 n1 n2 n3)), (Or.inl ⟨(pt_liF t m A p), (pt_nt t m (pt_nt t m (pt_nt t m (pt_nt t m (pt_nt t m (pt_nt t m (pt_nt t m (pt_nt t m (pt_nt t m (pt_nt t m p)))))))))), (by show (h101 90 8) = (pt_liF t m A p) ∧ 1 ≤ (pt_liF t m A p) ∧ (h 90 7) ≤ (h101 90 7) ∧ (h101 90 7) ≤ N; omega), (Or.inl ⟨hk, by omega, rfl⟩)⟩)⟩
      · skip
        show ov_R u d ov_m218 12 [(0, ov_r 90)] [] z100 h101 (P_fMo_readLine_90 F z h t m N p A)
        have f121 : (pt_liF t m A p) = 0 ∧ (h101 90 8) = 0 ∧ (h 90 7) ≤ (h101 90 7) ∧ (h101 90 7) ≤ N ∧ 0 ≤ (h101 90 13) ∧ (h101 90 13) ≤ (h101 90 7) ∧ (h101 93 ((h101 90 7))) = (pt_nt t m (pt_nt t m (pt_nt t m (pt_nt t m (pt_nt t m (pt_nt t m (pt_nt t m (pt_nt t m (pt_nt t m (pt_nt t m p)))))))))) := f118
        clear f118
        have y119_ : pt_MR t m (pt_liA t m A p) (h101 96) (h101 90 15) (h101 99) := y119
        refine ov_goto (tgt := 49) d_218_12 (by decide) ?_
        have hA : pt_LA t m A p = pt_liA t m A p := by unfold pt_LA; rw [if_pos hk]
        exact ov_retv (st := []) d_218_49 rfl ⟨rfl, I102, (fun a ca => (fr111 a ca)), (fun k n0 n1 n2 n3 => (rk112 k n0 n1 n2 n3)), (Or.inr ⟨(pt_nt t m (pt_nt t m (pt_nt t m (pt_nt t m (pt_nt t m (pt_nt t m (pt_nt t m (pt_nt t m (pt_nt t m (pt_nt t m p)))))))))), (by show (h101 90 8) = 0 ∧ (h 90 7) ≤ (h101 90 7) ∧ (h101 90 7) ≤ N ∧ 0 ≤ (h101 90 13) ∧ (h101 90 13) ≤ (h101 90 7) ∧ (h101 93 ((h101 90 7))) = (pt_nt t m (pt_nt t m (pt_nt t m (pt_nt t m (pt_nt t m (pt_nt t m (pt_nt t m (pt_nt t m (pt_nt t m (pt_nt t m p)))))))))); omega), (Or.inl ⟨hk, by omega, rfl⟩), (by rw [hA]; exact y119_)⟩)⟩

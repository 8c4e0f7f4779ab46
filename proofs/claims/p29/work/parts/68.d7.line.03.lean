abbrev P_fMo_readOnce_90 (F : ov_H × ov_Z) (z : ov_Z) (h : ov_H) (t : Int → Int) (m : Int) (N : Int) (p : Int) (A : Int → Int) : Option ov_V → ov_Z → ov_H → Prop := fun r0 z' h' => r0 = none ∧ ov_N F z' h' ∧ (∀ a : Int, a ≠ 90 ∧ a ≠ 96 → h' a = h a) ∧ (∀ k : Int, k ≠ 7 → k ≠ 8 → k ≠ 15 → (h' 90) k = (h 90) k) ∧ ((∃ f : Int, ∃ q : Int, ((h' 90 8) = f ∧ 1 ≤ f ∧ (h 90 7) ≤ (h' 90 7) ∧ (h' 90 7) ≤ N) ∧ (pt_EL t m A p f q)) ∨ (∃ q : Int, ((h' 90 8) = 0 ∧ (h 90 7) ≤ (h' 90 7) ∧ (h' 90 7) ≤ N ∧ 0 ≤ (h' 90 13) ∧ (h' 90 13) ≤ (h' 90 7) ∧ (h' 93 ((h' 90 7))) = q) ∧ (pt_EL t m A p 0 q) ∧ (pt_MR t m (pt_LA t m A p) (h' 96) (h' 90 15) (h' 99))))
set_option maxHeartbeats 4000000 in
theorem c_fMo_readOnce_90 {u : ov_U} {F : ov_H × ov_Z} (t : Int → Int) (m : Int) (N : Int) (p : Int) (A : Int → Int) {z : ov_Z} {h : ov_H} (d : Nat) (hd : 2 ≤ d) (U : ov_cap u) (I : ov_N F z h) (p0 : 0 ≤ (h 90 7) ∧ (h 90 7) ≤ N) (p1 : (h 93 ((h 90 7))) = p) (p2 : 0 ≤ (h 90 8)) (p3 : (h 90 8) = 0) (p4 : 0 ≤ (h 90 13) ∧ (h 90 13) ≤ (h 90 7)) (p5 : pt_lk t m p < 0 ∨ 3 ≤ pt_lk t m p) (mt : pt_MT t m (h 92) (h 93) (h 94) N) (wd : pt_WD (h 95)) (mr : pt_MR t m A (h 96) (h 90 15) (h 99)) : ov_T u d ov_m233 [ov_r 90] z h (P_fMo_readOnce_90 F z h t m N p A) := by
  refine ov_en rfl (Nat.le_of_ble_eq_true rfl) ?_
  show ov_R u d ov_m233 0 [(0, ov_r 90)] [] z h (P_fMo_readOnce_90 F z h t m N p A)
  have ma := pt_MT_at mt (k := h 90 7) (by omega)
  rw [p1] at ma
  have mp := ma.2.1
  have m2 := ma.2.2.1
  have m3 := ma.2.2.2
  have mc := pt_cm_f (t := t) (m := m) (p := p)
  have mN := mt.1.2.1
  clear ma
  have rA := pt_MR_r mr
  refine ov_blk (ls2 := [(0, ov_r 90)]) (st2 := [ov_i 5, ov_i 4, ov_r 90]) (pc2 := 3) b_233_0_3 rfl rfl ?_
  refine ov_cV (as := [ov_i 4, ov_i 5]) (st := []) (d2 := d - 1) d_233_3 lk_Mo_202 rfl (Nat.le_of_ble_eq_true rfl) (c := 1) (zb_90 I) (zs_90 I) ⟨by decide, rfl⟩ (by omega) (c_fMo_wordHere_90 t m N p (d - 1) (by omega) U I 4 5 (by omega) (by omega) (by show 0 ≤ (h 90 7) ∧ (h 90 7) ≤ N; omega) (by show (h 93 ((h 90 7))) = p; omega) (by show 0 ≤ (h 90 8); omega) (by show 0 ≤ (4 : Int) ∧ 0 ≤ (5 : Int) ∧ (4 : Int) + (5 : Int) ≤ 22; omega) mt wd) ?_
  rintro _ _ _ ⟨v1, rfl, rfl, rfl, f2⟩
  have f3 : ((h 90 8) ≠ 0 ∧ v1 = -1 ∨ (h 90 8) = 0 ∧ v1 = pt_wh t m p (4 : Int) (Int.toNat (5 : Int))) ∧ -1 ≤ v1 ∧ v1 ≤ (5 : Int) := f2
  clear f2
  show ov_R u d ov_m233 6 [(0, ov_r 90)] [ov_i v1] z h (P_fMo_readOnce_90 F z h t m N p A)
  refine ov_blk (ls2 := [(0, ov_r 90), (1, ov_i v1)]) (st2 := []) (pc2 := 7) b_233_6_1 rfl rfl ?_
  have wl := pt_wh_lk (t := t) (m := m) (p := p)
  refine ov_blk (ls2 := [(0, ov_r 90), (1, ov_i v1)]) (st2 := [ov_i v1]) (pc2 := 8) b_233_7_1 rfl rfl ?_
  refine ov_ifge (tgt := 19) d_233_8 (by decide) (by omega) (fun c4 => ?_) (fun c4 => ?_)
  · skip
    refine ov_blk (ls2 := [(0, ov_r 90), (1, ov_i v1)]) (st2 := [ov_r 90]) (pc2 := 20) b_233_19_1 rfl rfl ?_
    refine ov_getf (v := ov_i (h 90 15)) d_233_20 fl_Mo_211 (zb_90 I) (zs_90 I) rfl ?_
    have g5 := rg_90_15 I
    have bt := pt_MR_t mr (s := v1) (by omega)
    refine ov_blk (ls2 := [(0, ov_r 90), (1, ov_i v1)]) (st2 := [ov_i 1, ov_i (ov_and (ov_shr (h 90 15) v1) 1)]) (pc2 := 28) b_233_23_5 rfl rfl ?_
    have g6 := ov_shrg (h 90 15) v1
    have g7 := ov_andg (ov_shr (h 90 15) v1) 1
    have g8 := ov_and1 (ov_shr (h 90 15) v1)
    refine ov_icne (tgt := 36) d_233_28 (by decide) (by omega) (by omega) (fun c9 => ?_) (fun c9 => ?_)
    · skip
      refine ov_blk (ls2 := [(0, ov_r 90), (1, ov_i v1)]) (st2 := [ov_r 90]) (pc2 := 37) b_233_36_1 rfl rfl ?_
      refine ov_getf (v := ov_i (h 90 8)) d_233_37 fl_Mo_180 (zb_90 I) (zs_90 I) rfl ?_
      have g10 := rg_90_8 I
      refine ov_ifle (tgt := 44) d_233_40 (by decide) (by omega) (fun c11 => ?_) (fun c11 => ?_)
      · skip
        have bo := pt_bit (x := h 90 15) (s := v1) (by omega) (by omega)
        refine ov_blk (ls2 := [(0, ov_r 90), (1, ov_i v1)]) (st2 := [ov_r 90, ov_r 90]) (pc2 := 46) b_233_44_2 rfl rfl ?_
        refine ov_getf (v := ov_i (h 90 15)) d_233_46 fl_Mo_211 (zb_90 I) (zs_90 I) rfl ?_
        refine ov_blk (ls2 := [(0, ov_r 90), (1, ov_i v1)]) (st2 := [ov_i (ov_or (h 90 15) (ov_shl 1 v1)), ov_r 90]) (pc2 := 53) b_233_49_4 rfl rfl ?_
        have g13 := ov_shlg 1 v1
        have g14 := ov_org (h 90 15) (ov_shl 1 v1)
        refine ov_putf (x := (ov_or (h 90 15) (ov_shl 1 v1))) d_233_53 fl_Mo_211 (zb_90 I) (zs_90 I) rfl nk_0 rfl ?_
        have I15 := up_90_15 (x := (ov_or (h 90 15) (ov_shl 1 v1))) I (by omega)
        show ov_R u d ov_m233 56 [(0, ov_r 90), (1, ov_i v1)] [] z (ov_up h 90 15 (ov_or (h 90 15) (ov_shl 1 v1))) (P_fMo_readOnce_90 F z h t m N p A)
        refine ov_blk (ls2 := [(0, ov_r 90), (1, ov_i v1)]) (st2 := [ov_r 90, ov_r 90]) (pc2 := 58) b_233_56_2 rfl rfl ?_
        refine ov_getf (v := ov_i (h 90 7)) d_233_58 fl_Mo_177 (zb_90 I15) (zs_90 I15) rfl ?_
        have g16 := rg_90_7 I
        refine ov_blk (ls2 := [(0, ov_r 90), (1, ov_i v1)]) (st2 := [ov_i ((h 90 7) + 1), ov_r 90]) (pc2 := 63) b_233_61_2 rfl rfl ?_
        have kn := pt_MT_lt mt (k := h 90 7) (by omega) (by rw [p1]; omega)
        have mn := pt_MT_nx mt (k := h 90 7) ⟨by omega, by omega⟩
        rw [p1] at mn
        have nb := pt_nt_le (t := t) (n := m) (p := p) (by omega)
        refine ov_putf (x := ((h 90 7) + 1)) d_233_63 fl_Mo_177 (zb_90 I15) (zs_90 I15) rfl nk_0 rfl ?_
        have I17 := up_90_7 (x := ((h 90 7) + 1)) I15 (by omega)
        show ov_R u d ov_m233 66 [(0, ov_r 90), (1, ov_i v1)] [] z (ov_up (ov_up h 90 15 (ov_or (h 90 15) (ov_shl 1 v1))) 90 7 ((h 90 7) + 1)) (P_fMo_readOnce_90 F z h t m N p A)
        refine ov_blk (ls2 := [(0, ov_r 90), (1, ov_i v1)]) (st2 := [ov_r 90]) (pc2 := 67) b_233_66_1 rfl rfl ?_
        refine ov_getf (v := ov_r 96) d_233_67 fl_Mo_81 (zb_90 I17) (zs_90 I17) (congrArg ov_r (rg_90_10 I17)) ?_
        refine ov_blk (ls2 := [(0, ov_r 90), (1, ov_i v1)]) (st2 := [ov_i 4, ov_i v1, ov_i (342 + v1), ov_r 96]) (pc2 := 77) b_233_70_5 rfl rfl ?_
        refine ov_icne (tgt := 84) d_233_77 (by decide) (by omega) (by omega) (fun c18 => ?_) (fun c18 => ?_)
        · skip
          refine ov_blk (ls2 := [(0, ov_r 90), (1, ov_i v1)]) (st2 := [ov_i 3, ov_i v1, ov_i (342 + v1), ov_r 96]) (pc2 := 86) b_233_84_2 rfl rfl ?_
          refine ov_icne (tgt := 99) d_233_86 (by decide) (by omega) (by omega) (fun c19 => ?_) (fun c19 => ?_)
          · skip
            refine ov_blk (ls2 := [(0, ov_r 90), (1, ov_i v1)]) (st2 := [ov_i 30, ov_i 1, ov_r 90, ov_i (342 + v1), ov_r 96]) (pc2 := 103) b_233_99_3 rfl rfl ?_
            refine ov_cV (as := [ov_i 1, ov_i 30]) (st := [ov_i (342 + v1), ov_r 96]) (d2 := d - 1) d_233_103 lk_Mo_198 rfl (Nat.le_of_ble_eq_true rfl) (c := 1) (zb_90 I17) (zs_90 I17) ⟨by decide, rfl⟩ (by omega) (c_fMo_takeNumber_90 t m N (pt_nt t m p) (d - 1) (by omega) U I17 1 30 (by omega) (by omega) (by show 0 ≤ ((h 90 7) + 1) ∧ ((h 90 7) + 1) ≤ N; omega) (by show (h 93 (((h 90 7) + 1))) = (pt_nt t m p); omega) (by show 0 ≤ (h 90 8); omega) (by rw [show (ov_up (ov_up h 90 15 (ov_or (h 90 15) (ov_shl 1 v1))) 90 7 ((h 90 7) + 1)) 92 = h 92 from rfl, show (ov_up (ov_up h 90 15 (ov_or (h 90 15) (ov_shl 1 v1))) 90 7 ((h 90 7) + 1)) 93 = h 93 from rfl, show (ov_up (ov_up h 90 15 (ov_or (h 90 15) (ov_shl 1 v1))) 90 7 ((h 90 7) + 1)) 94 = h 94 from rfl]; exact mt)) ?_
            rintro _ z21 h22 ⟨v20, rfl, I23, y24, y25, y26⟩
            have E27 : h22 92 = h 92 := Eq.trans (y24 92 (by decide)) (show (ov_up (ov_up h 90 15 (ov_or (h 90 15) (ov_shl 1 v1))) 90 7 ((h 90 7) + 1)) 92 = h 92 from rfl)
            have E28 : h22 93 = h 93 := Eq.trans (y24 93 (by decide)) (show (ov_up (ov_up h 90 15 (ov_or (h 90 15) (ov_shl 1 v1))) 90 7 ((h 90 7) + 1)) 93 = h 93 from rfl)
            have E29 : h22 94 = h 94 := Eq.trans (y24 94 (by decide)) (show (ov_up (ov_up h 90 15 (ov_or (h 90 15) (ov_shl 1 v1))) 90 7 ((h 90 7) + 1)) 94 = h 94 from rfl)
            have E30 : h22 95 = h 95 := Eq.trans (y24 95 (by decide)) (show (ov_up (ov_up h 90 15 (ov_or (h 90 15) (ov_shl 1 v1))) 90 7 ((h 90 7) + 1)) 95 = h 95 from rfl)
            have E31 : h22 96 = h 96 := Eq.trans (y24 96 (by decide)) (show (ov_up (ov_up h 90 15 (ov_or (h 90 15) (ov_shl 1 v1))) 90 7 ((h 90 7) + 1)) 96 = h 96 from rfl)
            have E32 : h22 99 = h 99 := Eq.trans (y24 99 (by decide)) (show (ov_up (ov_up h 90 15 (ov_or (h 90 15) (ov_shl 1 v1))) 90 7 ((h 90 7) + 1)) 99 = h 99 from rfl)
            have fr33 : ∀ a : Int, a ≠ 90 ∧ a ≠ 96 → h22 a = h a := fun a ca => Eq.trans (y24 a (by omega)) (Eq.trans (by show (ov_up (ov_up h 90 15 (ov_or (h 90 15) (ov_shl 1 v1))) 90 7 ((h 90 7) + 1)) a = h a; rw [ov_up_ne (by omega), ov_up_ne (by omega)]) rfl)
            have y25_ : ∀ k : Int, k ≠ 7 → k ≠ 8 → (h22 90) k = ((ov_up (ov_up h 90 15 (ov_or (h 90 15) (ov_shl 1 v1))) 90 7 ((h 90 7) + 1)) 90) k := y25
            have rk34 : ∀ k : Int, k ≠ 7 → k ≠ 8 → k ≠ 15 → h22 90 k = h 90 k := fun k n0 n1 n2 => Eq.trans (y25_ k n0 n1) (Eq.trans (by show (ov_up (ov_up h 90 15 (ov_or (h 90 15) (ov_shl 1 v1))) 90 7 ((h 90 7) + 1)) 90 k = h 90 k; rw [ov_up_j n0, ov_up_j n2]) rfl)
            have g35 : h22 90 2 = (h 90 2) := y25_ 2 (by decide) (by decide)
            have g36 : h22 90 3 = (h 90 3) := y25_ 3 (by decide) (by decide)
            have g37 : h22 90 13 = (h 90 13) := y25_ 13 (by decide) (by decide)
            have g38 : h22 90 15 = (ov_or (h 90 15) (ov_shl 1 v1)) := y25_ 15 (by decide) (by decide)
            rcases y26 with f39 | f40 | f41
            · have q9 : v20 = 0 ∧ (h 90 8) ≠ 0 ∧ (h22 90 8) = (h 90 8) ∧ (h22 90 7) = ((h 90 7) + 1) ∧ (h22 93 ((h22 90 7))) = (pt_nt t m p) := f39
              omega
            · skip
              show ov_R u d ov_m233 106 [(0, ov_r 90), (1, ov_i v1)] [ov_i v20, ov_i (342 + v1), ov_r 96] z21 h22 (P_fMo_readOnce_90 F z h t m N p A)
              have f42 : v20 = 0 ∧ (h 90 8) = 0 ∧ (h22 90 8) = pt_fN t m (1 : Int) (30 : Int) (pt_nt t m p) ∧ 1 ≤ (h22 90 8) ∧ (h22 90 7) = ((h 90 7) + 1) ∧ (h22 93 ((h22 90 7))) = (pt_nt t m p) := f40
              clear f40
              refine ov_iast d_233_106 (zb_96 I23) (zs_96 I23) (by omega) ?_
              have I43 := ua_96 (k := (342 + v1)) (x := v20) I23 (by refine ⟨?_, ?_, ?_, ?_, ?_, ?_, ?_, ?_, ?_, ?_, ?_, ?_, ?_, ?_, ?_, ?_, ?_, ?_, ?_, ?_, ?_, ?_, ?_, ?_, ?_, ?_, ?_, ?_, ?_⟩ <;> omega)
              have ef : (pt_fN t m 1 30 (pt_nt t m p)) = pt_stF t m (pt_lk t m p - 3) 1 30 A p := by rw [show pt_lk t m p - 3 = v1 by omega]; unfold pt_stF; (repeat' split) <;> omega
              exact ov_retv (st := []) d_233_107 rfl ⟨rfl, I43, (fun a ca => Eq.trans (by show (ov_up h22 96 (342 + v1) v20) a = h22 a; rw [ov_up_ne (by omega)]) (fr33 a ca)), (fun k n0 n1 n2 => (Eq.trans (by show (ov_up h22 96 (342 + v1) v20) 90 k = h22 90 k; rw [ov_up_ne (by decide)]) (rk34 k n0 n1 n2))), (Or.inl ⟨(pt_fN t m 1 30 (pt_nt t m p)), (pt_nt t m (pt_nt t m p)), (by show (h22 90 8) = (pt_fN t m 1 30 (pt_nt t m p)) ∧ 1 ≤ (pt_fN t m 1 30 (pt_nt t m p)) ∧ (h 90 7) ≤ (h22 90 7) ∧ (h22 90 7) ≤ N; omega), (Or.inr (Or.inr (Or.inr (Or.inr (Or.inl ⟨by omega, by omega, ef, rfl⟩)))))⟩)⟩
            · skip
              show ov_R u d ov_m233 106 [(0, ov_r 90), (1, ov_i v1)] [ov_i v20, ov_i (342 + v1), ov_r 96] z21 h22 (P_fMo_readOnce_90 F z h t m N p A)
              have f44 : (h 90 8) = 0 ∧ (h22 90 8) = 0 ∧ pt_fN t m (1 : Int) (30 : Int) (pt_nt t m p) = 0 ∧ pt_ty t m (pt_nt t m p) = 3 ∧ (1 : Int) ≤ v20 ∧ v20 ≤ (30 : Int) ∧ v20 = pt_nm t m (pt_nt t m p) ∧ 0 ≤ v20 ∧ v20 ≤ 9999 ∧ (h22 90 7) = ((h 90 7) + 1) + 1 ∧ (h22 90 7) ≤ N ∧ (h22 93 ((h22 90 7))) = pt_nt t m (pt_nt t m p) := f41
              clear f41
              refine ov_iast d_233_106 (zb_96 I23) (zs_96 I23) (by omega) ?_
              have I45 := ua_96 (k := (342 + v1)) (x := v20) I23 (by refine ⟨?_, ?_, ?_, ?_, ?_, ?_, ?_, ?_, ?_, ?_, ?_, ?_, ?_, ?_, ?_, ?_, ?_, ?_, ?_, ?_, ?_, ?_, ?_, ?_, ?_, ?_, ?_, ?_, ?_⟩ <;> omega)
              have ef : (0 : Int) = pt_stF t m (pt_lk t m p - 3) 1 30 A p := by rw [show pt_lk t m p - 3 = v1 by omega]; unfold pt_stF; (repeat' split) <;> omega
              have hA : pt_LA t m A p = ov_rs (ov_rs A (300 + v1) 1) (2 + v1) v20 := by unfold pt_LA pt_stA; rw [if_neg (by omega), if_neg (by omega), if_neg (by omega), if_neg (by omega), show pt_lk t m p - 3 = v1 by omega, show pt_nm t m (pt_nt t m p) = v20 by omega]
              have m1 : (ov_up h22 96 (342 + v1) v20) 96 = ov_rs (h 96) (342 + v1) v20 := by rw [show (ov_up h22 96 (342 + v1) v20) 96 = (ov_rs (h 96) (342 + v1) v20) from (Eq.trans (ov_up_row h22 96 (342 + v1) v20) (congrArg (fun f => ov_rs f (342 + v1) v20) E31))]
              have m2 : (h22 90 15) = (ov_or (h 90 15) (ov_shl 1 v1)) := by omega
              have m3 : (ov_up h22 96 (342 + v1) v20) 99 = h 99 := E32
              exact ov_retv (st := []) d_233_107 rfl ⟨rfl, I45, (fun a ca => Eq.trans (by show (ov_up h22 96 (342 + v1) v20) a = h22 a; rw [ov_up_ne (by omega)]) (fr33 a ca)), (fun k n0 n1 n2 => (Eq.trans (by show (ov_up h22 96 (342 + v1) v20) 90 k = h22 90 k; rw [ov_up_ne (by decide)]) (rk34 k n0 n1 n2))), (Or.inr ⟨(pt_nt t m (pt_nt t m p)), (by show (h22 90 8) = 0 ∧ (h 90 7) ≤ (h22 90 7) ∧ (h22 90 7) ≤ N ∧ 0 ≤ (h22 90 13) ∧ (h22 90 13) ≤ (h22 90 7) ∧ (h22 93 ((h22 90 7))) = (pt_nt t m (pt_nt t m p)); omega), (Or.inr (Or.inr (Or.inr (Or.inr (Or.inl ⟨by omega, by omega, ef, rfl⟩))))), (by rw [hA]; exact (by show pt_MR t m (ov_rs (ov_rs A (300 + v1) 1) (2 + v1) v20) ((ov_up h22 96 (342 + v1) v20) 96) ((h22 90 15)) ((ov_up h22 96 (342 + v1) v20) 99); rw [m1, m2, m3]; exact pt_MR_once mr (by omega) (by omega) (by omega)))⟩)⟩
          · skip
            refine ov_blk (ls2 := [(0, ov_r 90), (1, ov_i v1)]) (st2 := [ov_i 9, ov_i 0, ov_r 90, ov_i (342 + v1), ov_r 96]) (pc2 := 93) b_233_89_3 rfl rfl ?_
            refine ov_cV (as := [ov_i 0, ov_i 9]) (st := [ov_i (342 + v1), ov_r 96]) (d2 := d - 1) d_233_93 lk_Mo_198 rfl (Nat.le_of_ble_eq_true rfl) (c := 1) (zb_90 I17) (zs_90 I17) ⟨by decide, rfl⟩ (by omega) (c_fMo_takeNumber_90 t m N (pt_nt t m p) (d - 1) (by omega) U I17 0 9 (by omega) (by omega) (by show 0 ≤ ((h 90 7) + 1) ∧ ((h 90 7) + 1) ≤ N; omega) (by show (h 93 (((h 90 7) + 1))) = (pt_nt t m p); omega) (by show 0 ≤ (h 90 8); omega) (by rw [show (ov_up (ov_up h 90 15 (ov_or (h 90 15) (ov_shl 1 v1))) 90 7 ((h 90 7) + 1)) 92 = h 92 from rfl, show (ov_up (ov_up h 90 15 (ov_or (h 90 15) (ov_shl 1 v1))) 90 7 ((h 90 7) + 1)) 93 = h 93 from rfl, show (ov_up (ov_up h 90 15 (ov_or (h 90 15) (ov_shl 1 v1))) 90 7 ((h 90 7) + 1)) 94 = h 94 from rfl]; exact mt)) ?_
            rintro _ z47 h48 ⟨v46, rfl, I49, y50, y51, y52⟩
            have E53 : h48 92 = h 92 := Eq.trans (y50 92 (by decide)) (show (ov_up (ov_up h 90 15 (ov_or (h 90 15) (ov_shl 1 v1))) 90 7 ((h 90 7) + 1)) 92 = h 92 from rfl)
            have E54 : h48 93 = h 93 := Eq.trans (y50 93 (by decide)) (show (ov_up (ov_up h 90 15 (ov_or (h 90 15) (ov_shl 1 v1))) 90 7 ((h 90 7) + 1)) 93 = h 93 from rfl)
            have E55 : h48 94 = h 94 := Eq.trans (y50 94 (by decide)) (show (ov_up (ov_up h 90 15 (ov_or (h 90 15) (ov_shl 1 v1))) 90 7 ((h 90 7) + 1)) 94 = h 94 from rfl)
            have E56 : h48 95 = h 95 := Eq.trans (y50 95 (by decide)) (show (ov_up (ov_up h 90 15 (ov_or (h 90 15) (ov_shl 1 v1))) 90 7 ((h 90 7) + 1)) 95 = h 95 from rfl)
            have E57 : h48 96 = h 96 := Eq.trans (y50 96 (by decide)) (show (ov_up (ov_up h 90 15 (ov_or (h 90 15) (ov_shl 1 v1))) 90 7 ((h 90 7) + 1)) 96 = h 96 from rfl)
            have E58 : h48 99 = h 99 := Eq.trans (y50 99 (by decide)) (show (ov_up (ov_up h 90 15 (ov_or (h 90 15) (ov_shl 1 v1))) 90 7 ((h 90 7) + 1)) 99 = h 99 from rfl)
            have fr59 : ∀ a : Int, a ≠ 90 ∧ a ≠ 96 → h48 a = h a := fun a ca => Eq.trans (y50 a (by omega)) (Eq.trans (by show (ov_up (ov_up h 90 15 (ov_or (h 90 15) (ov_shl 1 v1))) 90 7 ((h 90 7) + 1)) a = h a; rw [ov_up_ne (by omega), ov_up_ne (by omega)]) rfl)
            have y51_ : ∀ k : Int, k ≠ 7 → k ≠ 8 → (h48 90) k = ((ov_up (ov_up h 90 15 (ov_or (h 90 15) (ov_shl 1 v1))) 90 7 ((h 90 7) + 1)) 90) k := y51
            have rk60 : ∀ k : Int, k ≠ 7 → k ≠ 8 → k ≠ 15 → h48 90 k = h 90 k := fun k n0 n1 n2 => Eq.trans (y51_ k n0 n1) (Eq.trans (by show (ov_up (ov_up h 90 15 (ov_or (h 90 15) (ov_shl 1 v1))) 90 7 ((h 90 7) + 1)) 90 k = h 90 k; rw [ov_up_j n0, ov_up_j n2]) rfl)
            have g61 : h48 90 2 = (h 90 2) := y51_ 2 (by decide) (by decide)
            have g62 : h48 90 3 = (h 90 3) := y51_ 3 (by decide) (by decide)
            have g63 : h48 90 13 = (h 90 13) := y51_ 13 (by decide) (by decide)
            have g64 : h48 90 15 = (ov_or (h 90 15) (ov_shl 1 v1)) := y51_ 15 (by decide) (by decide)
            rcases y52 with f65 | f66 | f67
            · have q9 : v46 = 0 ∧ (h 90 8) ≠ 0 ∧ (h48 90 8) = (h 90 8) ∧ (h48 90 7) = ((h 90 7) + 1) ∧ (h48 93 ((h48 90 7))) = (pt_nt t m p) := f65
              omega
            · skip
              show ov_R u d ov_m233 96 [(0, ov_r 90), (1, ov_i v1)] [ov_i v46, ov_i (342 + v1), ov_r 96] z47 h48 (P_fMo_readOnce_90 F z h t m N p A)
              have f68 : v46 = 0 ∧ (h 90 8) = 0 ∧ (h48 90 8) = pt_fN t m (0 : Int) (9 : Int) (pt_nt t m p) ∧ 1 ≤ (h48 90 8) ∧ (h48 90 7) = ((h 90 7) + 1) ∧ (h48 93 ((h48 90 7))) = (pt_nt t m p) := f66
              clear f66
              refine ov_goto (tgt := 106) d_233_96 (by decide) ?_
              refine ov_iast d_233_106 (zb_96 I49) (zs_96 I49) (by omega) ?_
              have I69 := ua_96 (k := (342 + v1)) (x := v46) I49 (by refine ⟨?_, ?_, ?_, ?_, ?_, ?_, ?_, ?_, ?_, ?_, ?_, ?_, ?_, ?_, ?_, ?_, ?_, ?_, ?_, ?_, ?_, ?_, ?_, ?_, ?_, ?_, ?_, ?_, ?_⟩ <;> omega)
              have a3 : A (300 + v1) = A (300 + 3) := by rw [show v1 = 3 by omega]
              have ef : (pt_fN t m 0 9 (pt_nt t m p)) = pt_stF t m 3 0 9 A p := by unfold pt_stF; (repeat' split) <;> omega
              exact ov_retv (st := []) d_233_107 rfl ⟨rfl, I69, (fun a ca => Eq.trans (by show (ov_up h48 96 (342 + v1) v46) a = h48 a; rw [ov_up_ne (by omega)]) (fr59 a ca)), (fun k n0 n1 n2 => (Eq.trans (by show (ov_up h48 96 (342 + v1) v46) 90 k = h48 90 k; rw [ov_up_ne (by decide)]) (rk60 k n0 n1 n2))), (Or.inl ⟨(pt_fN t m 0 9 (pt_nt t m p)), (pt_nt t m (pt_nt t m p)), (by show (h48 90 8) = (pt_fN t m 0 9 (pt_nt t m p)) ∧ 1 ≤ (pt_fN t m 0 9 (pt_nt t m p)) ∧ (h 90 7) ≤ (h48 90 7) ∧ (h48 90 7) ≤ N; omega), (Or.inr (Or.inr (Or.inr (Or.inr (Or.inr (Or.inl ⟨by omega, ef, rfl⟩))))))⟩)⟩
            · skip
              show ov_R u d ov_m233 96 [(0, ov_r 90), (1, ov_i v1)] [ov_i v46, ov_i (342 + v1), ov_r 96] z47 h48 (P_fMo_readOnce_90 F z h t m N p A)
              have f70 : (h 90 8) = 0 ∧ (h48 90 8) = 0 ∧ pt_fN t m (0 : Int) (9 : Int) (pt_nt t m p) = 0 ∧ pt_ty t m (pt_nt t m p) = 3 ∧ (0 : Int) ≤ v46 ∧ v46 ≤ (9 : Int) ∧ v46 = pt_nm t m (pt_nt t m p) ∧ 0 ≤ v46 ∧ v46 ≤ 9999 ∧ (h48 90 7) = ((h 90 7) + 1) + 1 ∧ (h48 90 7) ≤ N ∧ (h48 93 ((h48 90 7))) = pt_nt t m (pt_nt t m p) := f67
              clear f67
              refine ov_goto (tgt := 106) d_233_96 (by decide) ?_
              refine ov_iast d_233_106 (zb_96 I49) (zs_96 I49) (by omega) ?_
              have I71 := ua_96 (k := (342 + v1)) (x := v46) I49 (by refine ⟨?_, ?_, ?_, ?_, ?_, ?_, ?_, ?_, ?_, ?_, ?_, ?_, ?_, ?_, ?_, ?_, ?_, ?_, ?_, ?_, ?_, ?_, ?_, ?_, ?_, ?_, ?_, ?_, ?_⟩ <;> omega)
              have a3 : A (300 + v1) = A (300 + 3) := by rw [show v1 = 3 by omega]
              have ef : (0 : Int) = pt_stF t m 3 0 9 A p := by unfold pt_stF; (repeat' split) <;> omega
              have hA : pt_LA t m A p = ov_rs (ov_rs A (300 + v1) 1) (2 + v1) v46 := by unfold pt_LA pt_stA; rw [if_neg (by omega), if_neg (by omega), if_neg (by omega), if_neg (by omega), show pt_lk t m p - 3 = v1 by omega, show pt_nm t m (pt_nt t m p) = v46 by omega]
              have m1 : (ov_up h48 96 (342 + v1) v46) 96 = ov_rs (h 96) (342 + v1) v46 := by rw [show (ov_up h48 96 (342 + v1) v46) 96 = (ov_rs (h 96) (342 + v1) v46) from (Eq.trans (ov_up_row h48 96 (342 + v1) v46) (congrArg (fun f => ov_rs f (342 + v1) v46) E57))]
              have m2 : (h48 90 15) = (ov_or (h 90 15) (ov_shl 1 v1)) := by omega
              have m3 : (ov_up h48 96 (342 + v1) v46) 99 = h 99 := E58
              exact ov_retv (st := []) d_233_107 rfl ⟨rfl, I71, (fun a ca => Eq.trans (by show (ov_up h48 96 (342 + v1) v46) a = h48 a; rw [ov_up_ne (by omega)]) (fr59 a ca)), (fun k n0 n1 n2 => (Eq.trans (by show (ov_up h48 96 (342 + v1) v46) 90 k = h48 90 k; rw [ov_up_ne (by decide)]) (rk60 k n0 n1 n2))), (Or.inr ⟨(pt_nt t m (pt_nt t m p)), (by show (h48 90 8) = 0 ∧ (h 90 7) ≤ (h48 90 7) ∧ (h48 90 7) ≤ N ∧ 0 ≤ (h48 90 13) ∧ (h48 90 13) ≤ (h48 90 7) ∧ (h48 93 ((h48 90 7))) = (pt_nt t m (pt_nt t m p)); omega), (Or.inr (Or.inr (Or.inr (Or.inr (Or.inr (Or.inl ⟨by omega, ef, rfl⟩)))))), (by rw [hA]; exact (by show pt_MR t m (ov_rs (ov_rs A (300 + v1) 1) (2 + v1) v46) ((ov_up h48 96 (342 + v1) v46) 96) ((h48 90 15)) ((ov_up h48 96 (342 + v1) v46) 99); rw [m1, m2, m3]; exact pt_MR_once mr (by omega) (by omega) (by omega)))⟩)⟩
        · skip
          refine ov_blk (ls2 := [(0, ov_r 90), (1, ov_i v1)]) (st2 := [ov_i 1, ov_i (342 + v1), ov_r 96]) (pc2 := 81) b_233_80_1 rfl rfl ?_
          refine ov_goto (tgt := 106) d_233_81 (by decide) ?_
          refine ov_iast d_233_106 (zb_96 I17) (zs_96 I17) (by omega) ?_
          have I72 := ua_96 (k := (342 + v1)) (x := 1) I17 (by refine ⟨?_, ?_, ?_, ?_, ?_, ?_, ?_, ?_, ?_, ?_, ?_, ?_, ?_, ?_, ?_, ?_, ?_, ?_, ?_, ?_, ?_, ?_, ?_, ?_, ?_, ?_, ?_, ?_, ?_⟩ <;> omega)
          have a4 : A (300 + v1) = A 304 := by rw [show v1 = 4 by omega] <;> rfl
          have ef : (0 : Int) = pt_chF A p := by unfold pt_chF; (repeat' split) <;> omega
          have hA : pt_LA t m A p = ov_rs (ov_rs A (300 + v1) 1) (2 + v1) 1 := by unfold pt_LA pt_chA; rw [if_neg (by omega), if_neg (by omega), if_neg (by omega), if_pos (by omega), show v1 = 4 by omega] <;> rfl
          have m1 : (ov_up (ov_up (ov_up h 90 15 (ov_or (h 90 15) (ov_shl 1 v1))) 90 7 ((h 90 7) + 1)) 96 (342 + v1) 1) 96 = ov_rs (h 96) (342 + v1) 1 := by rw [show (ov_up (ov_up (ov_up h 90 15 (ov_or (h 90 15) (ov_shl 1 v1))) 90 7 ((h 90 7) + 1)) 96 (342 + v1) 1) 96 = (ov_rs (h 96) (342 + v1) 1) from (Eq.trans (ov_up_row (ov_up (ov_up h 90 15 (ov_or (h 90 15) (ov_shl 1 v1))) 90 7 ((h 90 7) + 1)) 96 (342 + v1) 1) (congrArg (fun f => ov_rs f (342 + v1) 1) (Eq.trans (show (ov_up (ov_up h 90 15 (ov_or (h 90 15) (ov_shl 1 v1))) 90 7 ((h 90 7) + 1)) 96 = (ov_up h 90 15 (ov_or (h 90 15) (ov_shl 1 v1))) 96 from rfl) (Eq.trans (show (ov_up h 90 15 (ov_or (h 90 15) (ov_shl 1 v1))) 96 = h 96 from rfl) rfl))))]
          have m2 : (ov_or (h 90 15) (ov_shl 1 v1)) = (ov_or (h 90 15) (ov_shl 1 v1)) := by omega
          have m3 : (ov_up (ov_up (ov_up h 90 15 (ov_or (h 90 15) (ov_shl 1 v1))) 90 7 ((h 90 7) + 1)) 96 (342 + v1) 1) 99 = h 99 := rfl
          exact ov_retv (st := []) d_233_107 rfl ⟨rfl, I72, (fun a ca => Eq.trans (by show (ov_up (ov_up (ov_up h 90 15 (ov_or (h 90 15) (ov_shl 1 v1))) 90 7 ((h 90 7) + 1)) 96 (342 + v1) 1) a = h a; rw [ov_up_ne (by omega), ov_up_ne (by omega), ov_up_ne (by omega)]) rfl), (fun k n0 n1 n2 => (Eq.trans (by show (ov_up (ov_up (ov_up h 90 15 (ov_or (h 90 15) (ov_shl 1 v1))) 90 7 ((h 90 7) + 1)) 96 (342 + v1) 1) 90 k = h 90 k; rw [ov_up_ne (by decide), ov_up_j n0, ov_up_j n2]) rfl)), (Or.inr ⟨(pt_nt t m p), (by show (h 90 8) = 0 ∧ (h 90 7) ≤ ((h 90 7) + 1) ∧ ((h 90 7) + 1) ≤ N ∧ 0 ≤ (h 90 13) ∧ (h 90 13) ≤ ((h 90 7) + 1) ∧ (h 93 (((h 90 7) + 1))) = (pt_nt t m p); omega), (Or.inr (Or.inr (Or.inr (Or.inr (Or.inr (Or.inr (Or.inl ⟨by omega, ef, rfl⟩))))))), (by rw [hA]; exact (by show pt_MR t m (ov_rs (ov_rs A (300 + v1) 1) (2 + v1) 1) ((ov_up (ov_up (ov_up h 90 15 (ov_or (h 90 15) (ov_shl 1 v1))) 90 7 ((h 90 7) + 1)) 96 (342 + v1) 1) 96) ((ov_or (h 90 15) (ov_shl 1 v1))) ((ov_up (ov_up (ov_up h 90 15 (ov_or (h 90 15) (ov_shl 1 v1))) 90 7 ((h 90 7) + 1)) 96 (342 + v1) 1) 99); rw [m1, m2, m3]; exact pt_MR_once mr (by omega) (by omega) (by omega)))⟩)⟩
      · omega
    · skip
      refine ov_blk (ls2 := [(0, ov_r 90), (1, ov_i v1)]) (st2 := [ov_i 3, ov_r 90]) (pc2 := 33) b_233_31_2 rfl rfl ?_
      refine ov_cV (as := [ov_i 3]) (st := []) (d2 := d - 1) d_233_33 lk_Mo_186 rfl (Nat.le_of_ble_eq_true rfl) (c := 1) (zb_90 I) (zs_90 I) ⟨by decide, rfl⟩ (by omega) (c_fMo_wrong_90 t m N p (d - 1) (by omega) U I 3 (by omega) (by show 0 ≤ (h 90 7) ∧ (h 90 7) ≤ N; omega) (by show (h 93 ((h 90 7))) = p; omega) (by show 0 ≤ (h 90 8); omega) (by show 1 ≤ (3 : Int) ∧ (3 : Int) ≤ 5; omega) mt) ?_
      rintro _ z73 h74 ⟨rfl, I75, y76, y77, y78⟩
      have E79 : h74 92 = h 92 := Eq.trans (y76 92 (by decide)) (show h 92 = h 92 from rfl)
      have E80 : h74 93 = h 93 := Eq.trans (y76 93 (by decide)) (show h 93 = h 93 from rfl)
      have E81 : h74 94 = h 94 := Eq.trans (y76 94 (by decide)) (show h 94 = h 94 from rfl)
      have E82 : h74 95 = h 95 := Eq.trans (y76 95 (by decide)) (show h 95 = h 95 from rfl)
      have E83 : h74 96 = h 96 := Eq.trans (y76 96 (by decide)) (show h 96 = h 96 from rfl)
      have E84 : h74 99 = h 99 := Eq.trans (y76 99 (by decide)) (show h 99 = h 99 from rfl)
      have fr85 : ∀ a : Int, a ≠ 90 ∧ a ≠ 96 → h74 a = h a := fun a ca => Eq.trans (y76 a (by omega)) rfl
      have y77_ : ∀ k : Int, k ≠ 8 → (h74 90) k = (h 90) k := y77
      have rk86 : ∀ k : Int, k ≠ 7 → k ≠ 8 → k ≠ 15 → h74 90 k = h 90 k := fun k n0 n1 n2 => Eq.trans (y77_ k n1) rfl
      have g87 : h74 90 2 = (h 90 2) := y77_ 2 (by decide)
      have g88 : h74 90 3 = (h 90 3) := y77_ 3 (by decide)
      have g89 : h74 90 7 = (h 90 7) := y77_ 7 (by decide)
      have g90 : h74 90 13 = (h 90 13) := y77_ 13 (by decide)
      have g91 : h74 90 15 = (h 90 15) := y77_ 15 (by decide)
      rcases y78 with f92 | f93
      · omega
      · skip
        show ov_R u d ov_m233 36 [(0, ov_r 90), (1, ov_i v1)] [] z73 h74 (P_fMo_readOnce_90 F z h t m N p A)
        have f94 : (h 90 8) = 0 ∧ (h74 90 8) = (3 : Int) + 16 * p ∧ (h74 93 ((h74 90 7))) = p := f93
        clear f93
        refine ov_blk (ls2 := [(0, ov_r 90), (1, ov_i v1)]) (st2 := [ov_r 90]) (pc2 := 37) b_233_36_1 rfl rfl ?_
        refine ov_getf (v := ov_i (h74 90 8)) d_233_37 fl_Mo_180 (zb_90 I75) (zs_90 I75) rfl ?_
        have g95 := rg_90_8 I75
        refine ov_ifle (tgt := 44) d_233_40 (by decide) (by omega) (fun c96 => ?_) (fun c96 => ?_)
        · omega
        · skip
          have el0 : pt_EL t m A p (3 + 16 * p) (if pt_lk t m p = 7 then (pt_nt t m p) else (pt_nt t m (pt_nt t m p))) := by
            by_cases q7 : pt_lk t m p = 7
            · rw [if_pos q7]
              refine Or.inr (Or.inr (Or.inr (Or.inr (Or.inr (Or.inr (Or.inl ⟨q7, ?_, rfl⟩))))))
              have a4 : A (300 + v1) = A 304 := by rw [show v1 = 4 by omega] <;> rfl
              unfold pt_chF; (repeat' split) <;> omega
            · rw [if_neg q7]
              by_cases q6 : pt_lk t m p = 6
              · refine Or.inr (Or.inr (Or.inr (Or.inr (Or.inr (Or.inl ⟨q6, ?_, rfl⟩)))))
                have a3 : A (300 + v1) = A (300 + 3) := by rw [show v1 = 3 by omega]
                unfold pt_stF; (repeat' split) <;> omega
              · refine Or.inr (Or.inr (Or.inr (Or.inr (Or.inl ⟨by omega, by omega, ?_, rfl⟩))))
                rw [show pt_lk t m p - 3 = v1 by omega]
                unfold pt_stF; (repeat' split) <;> omega
          exact ov_retv (st := []) d_233_43 rfl ⟨rfl, I75, (fun a ca => (fr85 a ca)), (fun k n0 n1 n2 => (rk86 k n0 n1 n2)), (Or.inl ⟨(3 + 16 * p), (if pt_lk t m p = 7 then (pt_nt t m p) else (pt_nt t m (pt_nt t m p))), (by show (h74 90 8) = (3 + 16 * p) ∧ 1 ≤ (3 + 16 * p) ∧ (h 90 7) ≤ (h74 90 7) ∧ (h74 90 7) ≤ N; omega), el0⟩)⟩
  · skip
    refine ov_blk (ls2 := [(0, ov_r 90), (1, ov_i v1)]) (st2 := [ov_i 1, ov_r 90]) (pc2 := 13) b_233_11_2 rfl rfl ?_
    refine ov_cV (as := [ov_i 1]) (st := []) (d2 := d - 1) d_233_13 lk_Mo_186 rfl (Nat.le_of_ble_eq_true rfl) (c := 1) (zb_90 I) (zs_90 I) ⟨by decide, rfl⟩ (by omega) (c_fMo_wrong_90 t m N p (d - 1) (by omega) U I 1 (by omega) (by show 0 ≤ (h 90 7) ∧ (h 90 7) ≤ N; omega) (by show (h 93 ((h 90 7))) = p; omega) (by show 0 ≤ (h 90 8); omega) (by show 1 ≤ (1 : Int) ∧ (1 : Int) ≤ 5; omega) mt) ?_
    rintro _ z97 h98 ⟨rfl, I99, y100, y101, y102⟩
    have E103 : h98 92 = h 92 := Eq.trans (y100 92 (by decide)) (show h 92 = h 92 from rfl)
    have E104 : h98 93 = h 93 := Eq.trans (y100 93 (by decide)) (show h 93 = h 93 from rfl)
    have E105 : h98 94 = h 94 := Eq.trans (y100 94 (by decide)) (show h 94 = h 94 from rfl)
    have E106 : h98 95 = h 95 := Eq.trans (y100 95 (by decide)) (show h 95 = h 95 from rfl)
    have E107 : h98 96 = h 96 := Eq.trans (y100 96 (by decide)) (show h 96 = h 96 from rfl)
    have E108 : h98 99 = h 99 := Eq.trans (y100 99 (by decide)) (show h 99 = h 99 from rfl)
    have fr109 : ∀ a : Int, a ≠ 90 ∧ a ≠ 96 → h98 a = h a := fun a ca => Eq.trans (y100 a (by omega)) rfl
    have y101_ : ∀ k : Int, k ≠ 8 → (h98 90) k = (h 90) k := y101
    have rk110 : ∀ k : Int, k ≠ 7 → k ≠ 8 → k ≠ 15 → h98 90 k = h 90 k := fun k n0 n1 n2 => Eq.trans (y101_ k n1) rfl
    have g111 : h98 90 2 = (h 90 2) := y101_ 2 (by decide)
    have g112 : h98 90 3 = (h 90 3) := y101_ 3 (by decide)
    have g113 : h98 90 7 = (h 90 7) := y101_ 7 (by decide)
    have g114 : h98 90 13 = (h 90 13) := y101_ 13 (by decide)
    have g115 : h98 90 15 = (h 90 15) := y101_ 15 (by decide)
    rcases y102 with f116 | f117
    · omega
    · skip
      show ov_R u d ov_m233 16 [(0, ov_r 90), (1, ov_i v1)] [] z97 h98 (P_fMo_readOnce_90 F z h t m N p A)
      have f118 : (h 90 8) = 0 ∧ (h98 90 8) = (1 : Int) + 16 * p ∧ (h98 93 ((h98 90 7))) = p := f117
      clear f117
      refine ov_goto (tgt := 36) d_233_16 (by decide) ?_
      refine ov_blk (ls2 := [(0, ov_r 90), (1, ov_i v1)]) (st2 := [ov_r 90]) (pc2 := 37) b_233_36_1 rfl rfl ?_
      refine ov_getf (v := ov_i (h98 90 8)) d_233_37 fl_Mo_180 (zb_90 I99) (zs_90 I99) rfl ?_
      have g119 := rg_90_8 I99
      refine ov_ifle (tgt := 44) d_233_40 (by decide) (by omega) (fun c120 => ?_) (fun c120 => ?_)
      · omega
      · skip
        exact ov_retv (st := []) d_233_43 rfl ⟨rfl, I99, (fun a ca => (fr109 a ca)), (fun k n0 n1 n2 => (rk110 k n0 n1 n2)), (Or.inl ⟨(1 + 16 * p), p, (by show (h98 90 8) = (1 + 16 * p) ∧ 1 ≤ (1 + 16 * p) ∧ (h 90 7) ≤ (h98 90 7) ∧ (h98 90 7) ≤ N; omega), (Or.inr (Or.inr (Or.inr (Or.inr (Or.inr (Or.inr (Or.inr (⟨by omega, rfl, rfl⟩))))))))⟩)⟩

abbrev P_fReader_readRule_3_k3_1_58 (F : ov_H) (z : ov_Z) (h : ov_H) (t : Int → Int) (m : Int) (p : Int) (A : Int → Int) : Option ov_V → ov_Z → ov_H → Prop := fun r0 z' h' => ∃ r : Int, r0 = some (ov_i r) ∧ ov_I F z' h' ∧ (∀ a : Int, a ≠ 1 ∧ a ≠ 3 ∧ a ≠ 58 ∧ (a < 66 ∨ 68 < a) → h' a = h a) ∧ ((r = 0 ∧ ((h' 3 2) = (pt_ruF t m A p) ∧ 1 ≤ (pt_ruF t m A p) ∧ (h' 3 1) = (h 3 1))) ∨ (r = 0 ∧ ∃ f : Int, ∃ q : Int, ((pt_ruF t m A p) = 0 ∧ (h' 3 2) = f ∧ 1 ≤ f ∧ (h' 3 1) = (h 3 1)) ∧ (pt_EV t m 6 0 (pt_nt t m (pt_nt t m p)) f q)) ∨ (r = 0 ∧ ∃ q : Int, ((pt_ruF t m A p) = 0 ∧ (pt_is t m q 59) = 0 ∧ (h' 3 2) = 1 + 16 * q ∧ 0 ≤ q ∧ (h' 3 1) = (h 3 1)) ∧ (pt_EV t m 6 0 (pt_nt t m (pt_nt t m p)) 0 q)) ∨ (r = 1 ∧ ∃ q : Int, ((pt_ruF t m A p) = 0 ∧ (pt_is t m q 59) = 1 ∧ p ≤ q ∧ q ≤ m ∧ (h' 3 1) = (h 3 1) ∧ (h' 3 2) = (h 3 2)) ∧ (pt_EV t m 6 0 (pt_nt t m (pt_nt t m p)) 0 q) ∧ (pt_TC t m (h' 1) (pt_nt t m q)) ∧ (pt_CR t m (pt_ruA t m A p) (h' 58) (h' 59) (h' 60) (h' 61) (h' 62) (h' 63) (h' 64) (h' 66))))
set_option maxHeartbeats 4000000 in
theorem c_fReader_readRule_3_k3_1_58 {u : ov_U} {F : ov_H} (t : Int → Int) (m : Int) (p : Int) (A : Int → Int) {z : ov_Z} {h : ov_H} (d : Nat) (hd : 40 ≤ d) (U : ov_cap u) (I : ov_I F z h) (hw : ov_kw 516797064440019157002 F) (k0 : h 3 1 = 58) (et : (h 2) = t) (tc : pt_TC t m (h 1) p) (cr : pt_CR t m A (h 58) (h 59) (h 60) (h 61) (h 62) (h 63) (h 64) (h 66)) : ov_T u d ov_m66 [ov_r 3] z h (P_fReader_readRule_3_k3_1_58 F z h t m p A) := by
  refine ov_en rfl (Nat.le_of_ble_eq_true rfl) ?_
  show ov_R u d ov_m66 0 [(0, ov_r 3)] [] z h (P_fReader_readRule_3_k3_1_58 F z h t m p A)
  have gA := pt_CR_r cr
  have tb := pt_TC_b tc
  refine ov_blk (ls2 := [(0, ov_r 3)]) (st2 := [ov_r 3]) (pc2 := 1) b_66_0_1 rfl rfl ?_
  refine ov_getf (v := ov_r 58) d_66_1 fl_Reader_15 (zb_3 I) (zs_3 I) (congrArg ov_r k0) ?_
  have e1 : h 58 11 = (A 8) := (pt_CR_11 cr)
  refine ov_getf (v := ov_i (A 8)) d_66_4 fl_Reader_197 (zb_58 I) (zs_58 I) (congrArg ov_i e1) ?_
  have g2 := rg_58_11 I
  rw [e1] at g2
  refine ov_blk (ls2 := [(0, ov_r 3)]) (st2 := [ov_i 4, ov_i (A 8)]) (pc2 := 8) b_66_7_1 rfl rfl ?_
  refine ov_iclt (tgt := 17) d_66_8 (by decide) (by omega) (by omega) (fun c3 => ?_) (fun c3 => ?_)
  · skip
    refine ov_blk (ls2 := [(0, ov_r 3)]) (st2 := [ov_r 3]) (pc2 := 18) b_66_17_1 rfl rfl ?_
    refine ov_getf (v := ov_r 1) d_66_18 fl_Reader_9 (zb_3 I) (zs_3 I) (congrArg ov_r (rg_3_0 I)) ?_
    refine ov_cV (as := []) (st := []) (d2 := d - 1) d_66_21 lk_Reader_75 rfl (Nat.le_of_ble_eq_true rfl) (c := 8) (zb_1 I) (zs_1 I) ⟨by decide, rfl⟩ (by omega) (c_fTape_advance_1_t t m p (d - 1) (by omega) U I (ov_kws hw (by decide +kernel)) (show h 2 = t from Eq.trans (show h 2 = h 2 from rfl) et) tc) ?_
    rintro _ z4 h5 ⟨rfl, I6, y7, y8⟩
    have E9 : h5 2 = h 2 := Eq.trans (y7 2 (by decide)) (show h 2 = h 2 from rfl)
    have E10 : h5 3 = h 3 := Eq.trans (y7 3 (by decide)) (show h 3 = h 3 from rfl)
    have E11 : h5 58 = h 58 := Eq.trans (y7 58 (by decide)) (show h 58 = h 58 from rfl)
    have E12 : h5 59 = h 59 := Eq.trans (y7 59 (by decide)) (show h 59 = h 59 from rfl)
    have E13 : h5 60 = h 60 := Eq.trans (y7 60 (by decide)) (show h 60 = h 60 from rfl)
    have E14 : h5 61 = h 61 := Eq.trans (y7 61 (by decide)) (show h 61 = h 61 from rfl)
    have E15 : h5 62 = h 62 := Eq.trans (y7 62 (by decide)) (show h 62 = h 62 from rfl)
    have E16 : h5 63 = h 63 := Eq.trans (y7 63 (by decide)) (show h 63 = h 63 from rfl)
    have E17 : h5 64 = h 64 := Eq.trans (y7 64 (by decide)) (show h 64 = h 64 from rfl)
    have E18 : h5 66 = h 66 := Eq.trans (y7 66 (by decide)) (show h 66 = h 66 from rfl)
    have fr19 : ∀ a : Int, a ≠ 1 ∧ a ≠ 3 ∧ a ≠ 58 ∧ (a < 66 ∨ 68 < a) → h5 a = h a := fun a ca => Eq.trans (y7 a (by omega)) rfl
    have e20 : h5 3 1 = 58 := Eq.trans (congrFun (show h5 3 = h 3 from y7 3 (by decide)) 1) k0
    have y8_ : pt_TC t m (h5 1) (pt_nt t m p) := y8
    have g21 := pt_TC_b y8_
    have g22 := pt_nt_le (t := t) (n := m) (p := p) (by omega)
    show ov_R u d ov_m66 24 [(0, ov_r 3)] [] z4 h5 (P_fReader_readRule_3_k3_1_58 F z h t m p A)
    refine ov_blk (ls2 := [(0, ov_r 3)]) (st2 := [ov_r 3]) (pc2 := 25) b_66_24_1 rfl rfl ?_
    refine ov_getf (v := ov_r 1) d_66_25 fl_Reader_9 (zb_3 I6) (zs_3 I6) (congrArg ov_r (rg_3_0 I6)) ?_
    have e23 : h5 1 2 = (pt_ty t m (pt_nt t m p)) := (pt_TC_t y8_)
    refine ov_getf (v := ov_i (pt_ty t m (pt_nt t m p))) d_66_28 fl_Reader_37 (zb_1 I6) (zs_1 I6) (congrArg ov_i e23) ?_
    have g24 := rg_1_2 I6
    rw [e23] at g24
    refine ov_blk (ls2 := [(0, ov_r 3)]) (st2 := [ov_i 2, ov_i (pt_ty t m (pt_nt t m p))]) (pc2 := 32) b_66_31_1 rfl rfl ?_
    refine ov_icne (tgt := 48) d_66_32 (by decide) (by omega) (by omega) (fun c25 => ?_) (fun c25 => ?_)
    · skip
      refine ov_blk (ls2 := [(0, ov_r 3)]) (st2 := [ov_i 1, ov_r 3]) (pc2 := 50) b_66_48_2 rfl rfl ?_
      refine ov_cV (as := [ov_i 1]) (st := []) (d2 := d - 1) d_66_50 lk_Reader_58 rfl (Nat.le_of_ble_eq_true rfl) (c := 6) (zb_3 I6) (zs_3 I6) ⟨by decide, rfl⟩ (by omega) (c_fReader_fail_3 t m (pt_nt t m p) (d - 1) (by omega) U I6 (ov_kws hw (by decide +kernel)) 1 (by omega) (by show 1 ≤ (1 : Int) ∧ (1 : Int) ≤ 5; omega) (show h5 2 = t from Eq.trans (show h5 2 = h 2 from E9) et) y8_) ?_
      rintro _ z27 h28 ⟨v26, rfl, I29, y30, y31⟩
      have E32 : h28 1 = h5 1 := Eq.trans (y30 1 (by decide)) (show h5 1 = h5 1 from rfl)
      have E33 : h28 2 = h 2 := Eq.trans (y30 2 (by decide)) (show h5 2 = h 2 from E9)
      have E34 : h28 58 = h 58 := Eq.trans (y30 58 (by decide)) (show h5 58 = h 58 from E11)
      have E35 : h28 59 = h 59 := Eq.trans (y30 59 (by decide)) (show h5 59 = h 59 from E12)
      have E36 : h28 60 = h 60 := Eq.trans (y30 60 (by decide)) (show h5 60 = h 60 from E13)
      have E37 : h28 61 = h 61 := Eq.trans (y30 61 (by decide)) (show h5 61 = h 61 from E14)
      have E38 : h28 62 = h 62 := Eq.trans (y30 62 (by decide)) (show h5 62 = h 62 from E15)
      have E39 : h28 63 = h 63 := Eq.trans (y30 63 (by decide)) (show h5 63 = h 63 from E16)
      have E40 : h28 64 = h 64 := Eq.trans (y30 64 (by decide)) (show h5 64 = h 64 from E17)
      have E41 : h28 66 = h 66 := Eq.trans (y30 66 (by decide)) (show h5 66 = h 66 from E18)
      have fr42 : ∀ a : Int, a ≠ 1 ∧ a ≠ 3 ∧ a ≠ 58 ∧ (a < 66 ∨ 68 < a) → h28 a = h a := fun a ca => Eq.trans (y30 a (by omega)) (fr19 a ca)
      have cf44 : h5 3 1 = h 3 1 := congrFun E10 1
      rcases y31 with ⟨rfl, f45⟩
      · skip
        show ov_R u d ov_m66 53 [(0, ov_r 3)] [ov_i 0] z27 h28 (P_fReader_readRule_3_k3_1_58 F z h t m p A)
        have f46 : (h28 3 2) = (1 : Int) + 16 * (pt_nt t m p) ∧ (h28 3 1) = (h5 3 1) := f45
        clear f45
        have e43 : h28 3 1 = 58 := by omega
        have hF : (pt_ruF t m A p) = (h28 3 2) := by unfold pt_ruF; rw [if_neg (by omega), pt_ite_t (fun w => absurd w.1 (by omega))]; omega
        exact ov_retz (st := []) d_66_53 rfl (by omega) ⟨_, rfl, I29, (fun a ca => (fr42 a ca)), (Or.inl ⟨rfl, (by show (h28 3 2) = (pt_ruF t m A p) ∧ 1 ≤ (pt_ruF t m A p) ∧ (h28 3 1) = (h 3 1); omega)⟩)⟩
    · skip
      have gw := pt_w256_b (t := t) (m := m) (p := (pt_nt t m p)) (by omega)
      refine ov_blk (ls2 := [(0, ov_r 3)]) (st2 := [ov_r 3]) (pc2 := 36) b_66_35_1 rfl rfl ?_
      refine ov_getf (v := ov_r 1) d_66_36 fl_Reader_9 (zb_3 I6) (zs_3 I6) (congrArg ov_r (rg_3_0 I6)) ?_
      have e47 : h5 1 6 = (pt_w256 t m (pt_nt t m p)) := (pt_TC_w y8_ (by omega))
      refine ov_getf (v := ov_l (pt_w256 t m (pt_nt t m p))) d_66_39 fl_Reader_200 (zb_1 I6) (zs_1 I6) (congrArg ov_l e47) ?_
      refine ov_cS (as := [ov_l (pt_w256 t m (pt_nt t m p))]) (st := []) (d2 := d - 1) d_66_42 lk_Reader_204 rfl (Nat.le_of_ble_eq_true rfl) (by omega) (c_fReader_isReserved (d - 1) (by omega) U I6 (pt_w256 t m (pt_nt t m p)) (by show -9223372036854775808 ≤ (pt_w256 t m (pt_nt t m p)) ∧ (pt_w256 t m (pt_nt t m p)) ≤ 9223372036854775807; omega)) ?_
      rintro _ _ _ ⟨v48, rfl, rfl, rfl, y49⟩
      rcases y49 with ⟨rfl, y50⟩ | ⟨rfl, y51⟩
      · skip
        show ov_R u d ov_m66 45 [(0, ov_r 3)] [ov_i 0] z4 h5 (P_fReader_readRule_3_k3_1_58 F z h t m p A)
        have y50_ : ¬ ∃ j : Int, 0 ≤ j ∧ j < 20 ∧ pt_rv j = (pt_w256 t m (pt_nt t m p)) := y50
        refine ov_ifeq (tgt := 54) d_66_45 (by decide) (by omega) (fun c52 => ?_) (fun c52 => ?_)
        · skip
          refine ov_blk (ls2 := [(0, ov_r 3)]) (st2 := [ov_r 3]) (pc2 := 55) b_66_54_1 rfl rfl ?_
          refine ov_getf (v := ov_r 58) d_66_55 fl_Reader_15 (zb_3 I6) (zs_3 I6) (congrArg ov_r e20) ?_
          refine ov_blk (ls2 := [(0, ov_r 3)]) (st2 := [ov_r 3, ov_r 58]) (pc2 := 59) b_66_58_1 rfl rfl ?_
          refine ov_getf (v := ov_r 1) d_66_59 fl_Reader_9 (zb_3 I6) (zs_3 I6) (congrArg ov_r (rg_3_0 I6)) ?_
          have e53 : h5 1 6 = (pt_w256 t m (pt_nt t m p)) := (pt_TC_w y8_ (by omega))
          refine ov_getf (v := ov_l (pt_w256 t m (pt_nt t m p))) d_66_62 fl_Reader_200 (zb_1 I6) (zs_1 I6) (congrArg ov_l e53) ?_
          refine ov_cV (as := [ov_l (pt_w256 t m (pt_nt t m p))]) (st := []) (d2 := d - 1) d_66_65 lk_Reader_207 rfl (Nat.le_of_ble_eq_true rfl) (c := 9) (zb_58 I6) (zs_58 I6) ⟨by decide, rfl⟩ (by omega) (c_fTown_hasRule_58 t m A (d - 1) (by omega) U I6 (pt_w256 t m (pt_nt t m p)) (by show -9223372036854775808 ≤ (pt_w256 t m (pt_nt t m p)) ∧ (pt_w256 t m (pt_nt t m p)) ≤ 9223372036854775807; omega) (by rw [show h5 58 = h 58 from E11, show h5 59 = h 59 from E12, show h5 60 = h 60 from E13, show h5 61 = h 61 from E14, show h5 62 = h 62 from E15, show h5 63 = h 63 from E16, show h5 64 = h 64 from E17, show h5 66 = h 66 from E18]; exact cr)) ?_
          rintro _ _ _ ⟨v54, rfl, rfl, rfl, y55⟩
          rcases y55 with ⟨rfl, y56⟩ | ⟨rfl, y57⟩
          · skip
            show ov_R u d ov_m66 68 [(0, ov_r 3)] [ov_i 0] z4 h5 (P_fReader_readRule_3_k3_1_58 F z h t m p A)
            have y56_ : ¬ ∃ i : Int, 0 ≤ i ∧ i < A 8 ∧ pt_w256 t m (A (310 + i)) = (pt_w256 t m (pt_nt t m p)) := y56
            refine ov_ifeq (tgt := 77) d_66_68 (by decide) (by omega) (fun c58 => ?_) (fun c58 => ?_)
            · skip
              refine ov_blk (ls2 := [(0, ov_r 3)]) (st2 := [ov_r 3]) (pc2 := 78) b_66_77_1 rfl rfl ?_
              refine ov_getf (v := ov_r 1) d_66_78 fl_Reader_9 (zb_3 I6) (zs_3 I6) (congrArg ov_r (rg_3_0 I6)) ?_
              have e59 : h5 1 6 = (pt_w256 t m (pt_nt t m p)) := (pt_TC_w y8_ (by omega))
              refine ov_getf (v := ov_l (pt_w256 t m (pt_nt t m p))) d_66_81 fl_Reader_200 (zb_1 I6) (zs_1 I6) (congrArg ov_l e59) ?_
              refine ov_blk (ls2 := [(0, ov_r 3), (1, ov_l (pt_w256 t m (pt_nt t m p)))]) (st2 := [ov_r 3]) (pc2 := 86) b_66_84_2 rfl rfl ?_
              refine ov_getf (v := ov_r 1) d_66_86 fl_Reader_9 (zb_3 I6) (zs_3 I6) (congrArg ov_r (rg_3_0 I6)) ?_
              refine ov_cV (as := []) (st := []) (d2 := d - 1) d_66_89 lk_Reader_75 rfl (Nat.le_of_ble_eq_true rfl) (c := 8) (zb_1 I6) (zs_1 I6) ⟨by decide, rfl⟩ (by omega) (c_fTape_advance_1_t t m (pt_nt t m p) (d - 1) (by omega) U I6 (ov_kws hw (by decide +kernel)) (show h5 2 = t from Eq.trans (show h5 2 = h 2 from E9) et) y8_) ?_
              rintro _ z60 h61 ⟨rfl, I62, y63, y64⟩
              have E65 : h61 2 = h 2 := Eq.trans (y63 2 (by decide)) (show h5 2 = h 2 from E9)
              have E66 : h61 3 = h 3 := Eq.trans (y63 3 (by decide)) (show h5 3 = h 3 from E10)
              have E67 : h61 58 = h 58 := Eq.trans (y63 58 (by decide)) (show h5 58 = h 58 from E11)
              have E68 : h61 59 = h 59 := Eq.trans (y63 59 (by decide)) (show h5 59 = h 59 from E12)
              have E69 : h61 60 = h 60 := Eq.trans (y63 60 (by decide)) (show h5 60 = h 60 from E13)
              have E70 : h61 61 = h 61 := Eq.trans (y63 61 (by decide)) (show h5 61 = h 61 from E14)
              have E71 : h61 62 = h 62 := Eq.trans (y63 62 (by decide)) (show h5 62 = h 62 from E15)
              have E72 : h61 63 = h 63 := Eq.trans (y63 63 (by decide)) (show h5 63 = h 63 from E16)
              have E73 : h61 64 = h 64 := Eq.trans (y63 64 (by decide)) (show h5 64 = h 64 from E17)
              have E74 : h61 66 = h 66 := Eq.trans (y63 66 (by decide)) (show h5 66 = h 66 from E18)
              have fr75 : ∀ a : Int, a ≠ 1 ∧ a ≠ 3 ∧ a ≠ 58 ∧ (a < 66 ∨ 68 < a) → h61 a = h a := fun a ca => Eq.trans (y63 a (by omega)) (fr19 a ca)
              have e76 : h61 3 1 = 58 := Eq.trans (congrFun (show h61 3 = h5 3 from y63 3 (by decide)) 1) e20
              have y64_ : pt_TC t m (h61 1) (pt_nt t m (pt_nt t m p)) := y64
              have g77 := pt_TC_b y64_
              have g78 := pt_nt_le (t := t) (n := m) (p := (pt_nt t m p)) (by omega)
              show ov_R u d ov_m66 92 [(0, ov_r 3), (1, ov_l (pt_w256 t m (pt_nt t m p)))] [] z60 h61 (P_fReader_readRule_3_k3_1_58 F z h t m p A)
              refine ov_blk (ls2 := [(0, ov_r 3), (1, ov_l (pt_w256 t m (pt_nt t m p)))]) (st2 := [ov_i 0, ov_r 3]) (pc2 := 94) b_66_92_2 rfl rfl ?_
              refine ov_cV (as := [ov_i 0]) (st := []) (d2 := d - 1) d_66_94 lk_Reader_210 rfl (Nat.le_of_ble_eq_true rfl) (c := 6) (zb_3 I62) (zs_3 I62) ⟨by decide, rfl⟩ (by omega) (c_fReader_readExpression_3_k3_1_58_all t m (pt_nt t m (pt_nt t m p)) 5 (d - 1) (by omega) U I62 (ov_kws hw (by decide +kernel)) 0 e76 (by omega) (by show 0 ≤ (0 : Int) ∧ (0 : Int) + ((5 : Nat) : Int) = 5; omega) (show h61 2 = t from Eq.trans (show h61 2 = h 2 from E65) et) y64_) ?_
              rintro _ z80 h81 ⟨v79, rfl, I82, y83, y84, y85⟩
              have E86 : h81 2 = h 2 := Eq.trans (y83 2 (by decide)) (show h61 2 = h 2 from E65)
              have E87 : h81 59 = h 59 := Eq.trans (y83 59 (by decide)) (show h61 59 = h 59 from E68)
              have E88 : h81 60 = h 60 := Eq.trans (y83 60 (by decide)) (show h61 60 = h 60 from E69)
              have E89 : h81 61 = h 61 := Eq.trans (y83 61 (by decide)) (show h61 61 = h 61 from E70)
              have E90 : h81 62 = h 62 := Eq.trans (y83 62 (by decide)) (show h61 62 = h 62 from E71)
              have E91 : h81 63 = h 63 := Eq.trans (y83 63 (by decide)) (show h61 63 = h 63 from E72)
              have E92 : h81 64 = h 64 := Eq.trans (y83 64 (by decide)) (show h61 64 = h 64 from E73)
              have E93 : h81 66 = h 66 := Eq.trans (y83 66 (by decide)) (show h61 66 = h 66 from E74)
              have fr94 : ∀ a : Int, a ≠ 1 ∧ a ≠ 3 ∧ a ≠ 58 ∧ (a < 66 ∨ 68 < a) → h81 a = h a := fun a ca => Eq.trans (y83 a (by omega)) (fr75 a ca)
              have cf96 : h61 3 1 = h 3 1 := congrFun E66 1
              have cf97 : h61 3 2 = h 3 2 := congrFun E66 2
              have y84_ : ∀ k : Int, k ≠ 16 → (h81 58) k = (h61 58) k := y84
              rcases y85 with ⟨rfl, w98, w99, f100, y101⟩ | ⟨rfl, w102, f103, y104, y105⟩
              · skip
                show ov_R u d ov_m66 97 [(0, ov_r 3), (1, ov_l (pt_w256 t m (pt_nt t m p)))] [ov_i 0] z80 h81 (P_fReader_readRule_3_k3_1_58 F z h t m p A)
                have f106 : (h81 3 2) = w98 ∧ 1 ≤ w98 ∧ (h81 3 1) = (h61 3 1) := f100
                clear f100
                have e95 : h81 3 1 = 58 := by omega
                have y101_ : pt_EV t m 6 (0 : Int) (pt_nt t m (pt_nt t m p)) w98 w99 := y101
                refine ov_ifne (tgt := 102) d_66_97 (by decide) (by omega) (fun c107 => ?_) (fun c107 => ?_)
                · omega
                · skip
                  refine ov_blk (ls2 := [(0, ov_r 3), (1, ov_l (pt_w256 t m (pt_nt t m p)))]) (st2 := [ov_i 0]) (pc2 := 101) b_66_100_1 rfl rfl ?_
                  have hF : (pt_ruF t m A p) = 0 := by unfold pt_ruF; rw [if_neg (by omega), pt_ite_f (fun w => w ⟨by omega, y50_⟩), pt_ite_f (P := pt_KN t m A (pt_nt t m p)) y56_]
                  exact ov_retz (st := []) d_66_101 rfl (by omega) ⟨_, rfl, I82, (fun a ca => (fr94 a ca)), (Or.inr (Or.inl ⟨rfl, w98, w99, (by show (pt_ruF t m A p) = 0 ∧ (h81 3 2) = w98 ∧ 1 ≤ w98 ∧ (h81 3 1) = (h 3 1); omega), y101_⟩))⟩
              · skip
                show ov_R u d ov_m66 97 [(0, ov_r 3), (1, ov_l (pt_w256 t m (pt_nt t m p)))] [ov_i 1] z80 h81 (P_fReader_readRule_3_k3_1_58 F z h t m p A)
                have f108 : (pt_nt t m (pt_nt t m p)) ≤ w102 ∧ (h81 3 1) = (h61 3 1) ∧ (h81 3 2) = (h61 3 2) := f103
                clear f103
                have e95 : h81 3 1 = 58 := by omega
                have y104_ : pt_EV t m 6 (0 : Int) (pt_nt t m (pt_nt t m p)) 0 w102 := y104
                have y105_ : pt_TC t m (h81 1) w102 := y105
                have g109 := pt_TC_b y105_
                refine ov_ifne (tgt := 102) d_66_97 (by decide) (by omega) (fun c110 => ?_) (fun c110 => ?_)
                · skip
                  refine ov_blk (ls2 := [(0, ov_r 3), (1, ov_l (pt_w256 t m (pt_nt t m p)))]) (st2 := [ov_r 3]) (pc2 := 103) b_66_102_1 rfl rfl ?_
                  refine ov_getf (v := ov_r 58) d_66_103 fl_Reader_15 (zb_3 I82) (zs_3 I82) (congrArg ov_r e95) ?_
                  have e8r : h81 66 = h 66 := E93
                  have e11 : h81 58 11 = A 8 := Eq.trans (y84_ 11 (by decide)) (Eq.trans (congrFun (show h61 58 = h 58 from E67)  11) (pt_CR_11 cr))
                  refine ov_blk (ls2 := [(0, ov_r 3), (1, ov_l (pt_w256 t m (pt_nt t m p)))]) (st2 := [ov_l (pt_w256 t m (pt_nt t m p)), ov_r 58]) (pc2 := 107) b_66_106_1 rfl rfl ?_
                  refine ov_cV (as := [ov_l (pt_w256 t m (pt_nt t m p))]) (st := []) (d2 := d - 1) d_66_107 lk_Reader_213 rfl (Nat.le_of_ble_eq_true rfl) (c := 9) (zb_58 I82) (zs_58 I82) ⟨by decide, rfl⟩ (by omega) (c_fTown_addRule_58 (A 8) (d - 1) (by omega) U I82 (ov_kws hw (by decide +kernel)) (pt_w256 t m (pt_nt t m p)) (by show (h81 58 11) = (A 8); omega) (by show 0 ≤ (A 8) ∧ (A 8) < 4; omega)) ?_
                  rintro _ z111 h112 ⟨rfl, I113, y114, f115, y116, y117⟩
                  have E118 : h112 1 = h81 1 := Eq.trans (y114 1 (by decide)) (show h81 1 = h81 1 from rfl)
                  have E119 : h112 2 = h 2 := Eq.trans (y114 2 (by decide)) (show h81 2 = h 2 from E86)
                  have E120 : h112 3 = h81 3 := Eq.trans (y114 3 (by decide)) (show h81 3 = h81 3 from rfl)
                  have E121 : h112 59 = h 59 := Eq.trans (y114 59 (by decide)) (show h81 59 = h 59 from E87)
                  have E122 : h112 60 = h 60 := Eq.trans (y114 60 (by decide)) (show h81 60 = h 60 from E88)
                  have E123 : h112 61 = h 61 := Eq.trans (y114 61 (by decide)) (show h81 61 = h 61 from E89)
                  have E124 : h112 62 = h 62 := Eq.trans (y114 62 (by decide)) (show h81 62 = h 62 from E90)
                  have E125 : h112 63 = h 63 := Eq.trans (y114 63 (by decide)) (show h81 63 = h 63 from E91)
                  have E126 : h112 64 = h 64 := Eq.trans (y114 64 (by decide)) (show h81 64 = h 64 from E92)
                  have fr127 : ∀ a : Int, a ≠ 1 ∧ a ≠ 3 ∧ a ≠ 58 ∧ (a < 66 ∨ 68 < a) → h112 a = h a := fun a ca => Eq.trans (y114 a (by omega)) (fr94 a ca)
                  have e128 : h112 3 1 = 58 := Eq.trans (congrFun (show h112 3 = h81 3 from y114 3 (by decide)) 1) e95
                  have f129 : (h112 58 11) = (A 8) + 1 := f115
                  clear f115
                  have y116_ : (h112 66) = ov_rs (h81 66) (A 8) (pt_w256 t m (pt_nt t m p)) := y116
                  have y117_ : ∀ k : Int, k ≠ 11 → (h112 58) k = (h81 58) k := y117
                  show ov_R u d ov_m66 110 [(0, ov_r 3), (1, ov_l (pt_w256 t m (pt_nt t m p)))] [] z111 h112 (P_fReader_readRule_3_k3_1_58 F z h t m p A)
                  have f0 : ∀ k : Int, k ≠ 11 → k ≠ 16 → h112 58 k = h 58 k := fun k a c => Eq.trans (y117_ k a) (Eq.trans (y84_ k c) (congrFun (show h61 58 = h 58 from E67)  k))
                  refine ov_blk (ls2 := [(0, ov_r 3), (1, ov_l (pt_w256 t m (pt_nt t m p)))]) (st2 := [ov_i 59, ov_r 3]) (pc2 := 113) b_66_110_2 rfl rfl ?_
                  refine ov_cV (as := [ov_i 59]) (st := []) (d2 := d - 1) d_66_113 lk_Reader_92 rfl (Nat.le_of_ble_eq_true rfl) (c := 6) (zb_3 I113) (zs_3 I113) ⟨by decide, rfl⟩ (by omega) (c_fReader_takeSign_3 t m w102 (d - 1) (by omega) U I113 (ov_kws hw (by decide +kernel)) 59 (by omega) (show h112 2 = t from Eq.trans (show h112 2 = h 2 from E119) et) (by rw [show h112 1 = h81 1 from E118]; exact y105_)) ?_
                  rintro _ z131 h132 ⟨v130, rfl, I133, y134, y135⟩
                  have E136 : h132 2 = h 2 := Eq.trans (y134 2 (by decide)) (show h112 2 = h 2 from E119)
                  have E137 : h132 58 = h112 58 := Eq.trans (y134 58 (by decide)) (show h112 58 = h112 58 from rfl)
                  have E138 : h132 59 = h 59 := Eq.trans (y134 59 (by decide)) (show h112 59 = h 59 from E121)
                  have E139 : h132 60 = h 60 := Eq.trans (y134 60 (by decide)) (show h112 60 = h 60 from E122)
                  have E140 : h132 61 = h 61 := Eq.trans (y134 61 (by decide)) (show h112 61 = h 61 from E123)
                  have E141 : h132 62 = h 62 := Eq.trans (y134 62 (by decide)) (show h112 62 = h 62 from E124)
                  have E142 : h132 63 = h 63 := Eq.trans (y134 63 (by decide)) (show h112 63 = h 63 from E125)
                  have E143 : h132 64 = h 64 := Eq.trans (y134 64 (by decide)) (show h112 64 = h 64 from E126)
                  have E144 : h132 66 = h112 66 := Eq.trans (y134 66 (by decide)) (show h112 66 = h112 66 from rfl)
                  have fr145 : ∀ a : Int, a ≠ 1 ∧ a ≠ 3 ∧ a ≠ 58 ∧ (a < 66 ∨ 68 < a) → h132 a = h a := fun a ca => Eq.trans (y134 a (by omega)) (fr127 a ca)
                  have cf147 : h112 3 1 = h81 3 1 := congrFun E120 1
                  have cf148 : h112 3 2 = h81 3 2 := congrFun E120 2
                  rcases y135 with ⟨rfl, f149⟩ | ⟨rfl, f150, y151⟩
                  · skip
                    show ov_R u d ov_m66 116 [(0, ov_r 3), (1, ov_l (pt_w256 t m (pt_nt t m p)))] [ov_i 0] z131 h132 (P_fReader_readRule_3_k3_1_58 F z h t m p A)
                    have f152 : (h132 3 2) = (pt_fS t m (59 : Int) w102) ∧ 1 ≤ (pt_fS t m (59 : Int) w102) ∧ (h132 3 2) = 1 + 16 * w102 ∧ pt_is t m w102 (59 : Int) = 0 ∧ (h132 3 1) = (h112 3 1) := f149
                    clear f149
                    have e146 : h132 3 1 = 58 := by omega
                    have hF : (pt_ruF t m A p) = 0 := by unfold pt_ruF; rw [if_neg (by omega), pt_ite_f (fun w => w ⟨by omega, y50_⟩), pt_ite_f (P := pt_KN t m A (pt_nt t m p)) y56_]
                    exact ov_retz (st := []) d_66_116 rfl (by omega) ⟨_, rfl, I133, (fun a ca => (fr145 a ca)), (Or.inr (Or.inr (Or.inl ⟨rfl, w102, (by show (pt_ruF t m A p) = 0 ∧ (pt_is t m w102 59) = 0 ∧ (h132 3 2) = 1 + 16 * w102 ∧ 0 ≤ w102 ∧ (h132 3 1) = (h 3 1); omega), y104_⟩)))⟩
                  · skip
                    show ov_R u d ov_m66 116 [(0, ov_r 3), (1, ov_l (pt_w256 t m (pt_nt t m p)))] [ov_i 1] z131 h132 (P_fReader_readRule_3_k3_1_58 F z h t m p A)
                    have f153 : (pt_fS t m (59 : Int) w102) = 0 ∧ pt_is t m w102 (59 : Int) = 1 ∧ (h132 3 1) = (h112 3 1) ∧ (h132 3 2) = (h112 3 2) := f150
                    clear f150
                    have e146 : h132 3 1 = 58 := by omega
                    have y151_ : pt_TC t m (h132 1) (pt_nt t m w102) := y151
                    have g154 := pt_TC_b y151_
                    have g155 := pt_nt_le (t := t) (n := m) (p := w102) (by omega)
                    have hF : (pt_ruF t m A p) = 0 := by unfold pt_ruF; rw [if_neg (by omega), pt_ite_f (fun w => w ⟨by omega, y50_⟩), pt_ite_f (P := pt_KN t m A (pt_nt t m p)) y56_]
                    exact ov_retz (st := []) d_66_116 rfl (by omega) ⟨_, rfl, I133, (fun a ca => (fr145 a ca)), (Or.inr (Or.inr (Or.inr ⟨rfl, w102, (by show (pt_ruF t m A p) = 0 ∧ (pt_is t m w102 59) = 1 ∧ p ≤ w102 ∧ w102 ≤ m ∧ (h132 3 1) = (h 3 1) ∧ (h132 3 2) = (h 3 2); omega), y104_, y151_, (by rw [show h132 59 = (h 59) from E138, show h132 60 = (h 60) from E139, show h132 61 = (h 61) from E140, show h132 62 = (h 62) from E141, show h132 63 = (h 63) from E142, show h132 64 = (h 64) from E143, show h132 58 = h112 58 from E137, show h132 66 = h112 66 from E144]; exact pt_CR_rule cr (by omega) (by omega) f0 (by omega) (Eq.trans y116_ (congrArg (fun f => ov_rs f (A 8) (pt_w256 t m (pt_nt t m p))) e8r)))⟩)))⟩
                · omega
            · omega
          · skip
            show ov_R u d ov_m66 68 [(0, ov_r 3)] [ov_i 1] z4 h5 (P_fReader_readRule_3_k3_1_58 F z h t m p A)
            have y57_ : ∃ i : Int, 0 ≤ i ∧ i < A 8 ∧ pt_w256 t m (A (310 + i)) = (pt_w256 t m (pt_nt t m p)) := y57
            refine ov_ifeq (tgt := 77) d_66_68 (by decide) (by omega) (fun c156 => ?_) (fun c156 => ?_)
            · omega
            · skip
              refine ov_blk (ls2 := [(0, ov_r 3)]) (st2 := [ov_i 3, ov_r 3]) (pc2 := 73) b_66_71_2 rfl rfl ?_
              refine ov_cV (as := [ov_i 3]) (st := []) (d2 := d - 1) d_66_73 lk_Reader_58 rfl (Nat.le_of_ble_eq_true rfl) (c := 6) (zb_3 I6) (zs_3 I6) ⟨by decide, rfl⟩ (by omega) (c_fReader_fail_3 t m (pt_nt t m p) (d - 1) (by omega) U I6 (ov_kws hw (by decide +kernel)) 3 (by omega) (by show 1 ≤ (3 : Int) ∧ (3 : Int) ≤ 5; omega) (show h5 2 = t from Eq.trans (show h5 2 = h 2 from E9) et) y8_) ?_
              rintro _ z158 h159 ⟨v157, rfl, I160, y161, y162⟩
              have E163 : h159 1 = h5 1 := Eq.trans (y161 1 (by decide)) (show h5 1 = h5 1 from rfl)
              have E164 : h159 2 = h 2 := Eq.trans (y161 2 (by decide)) (show h5 2 = h 2 from E9)
              have E165 : h159 58 = h 58 := Eq.trans (y161 58 (by decide)) (show h5 58 = h 58 from E11)
              have E166 : h159 59 = h 59 := Eq.trans (y161 59 (by decide)) (show h5 59 = h 59 from E12)
              have E167 : h159 60 = h 60 := Eq.trans (y161 60 (by decide)) (show h5 60 = h 60 from E13)
              have E168 : h159 61 = h 61 := Eq.trans (y161 61 (by decide)) (show h5 61 = h 61 from E14)
              have E169 : h159 62 = h 62 := Eq.trans (y161 62 (by decide)) (show h5 62 = h 62 from E15)
              have E170 : h159 63 = h 63 := Eq.trans (y161 63 (by decide)) (show h5 63 = h 63 from E16)
              have E171 : h159 64 = h 64 := Eq.trans (y161 64 (by decide)) (show h5 64 = h 64 from E17)
              have E172 : h159 66 = h 66 := Eq.trans (y161 66 (by decide)) (show h5 66 = h 66 from E18)
              have fr173 : ∀ a : Int, a ≠ 1 ∧ a ≠ 3 ∧ a ≠ 58 ∧ (a < 66 ∨ 68 < a) → h159 a = h a := fun a ca => Eq.trans (y161 a (by omega)) (fr19 a ca)
              have cf175 : h5 3 1 = h 3 1 := congrFun E10 1
              rcases y162 with ⟨rfl, f176⟩
              · skip
                show ov_R u d ov_m66 76 [(0, ov_r 3)] [ov_i 0] z158 h159 (P_fReader_readRule_3_k3_1_58 F z h t m p A)
                have f177 : (h159 3 2) = (3 : Int) + 16 * (pt_nt t m p) ∧ (h159 3 1) = (h5 3 1) := f176
                clear f176
                have e174 : h159 3 1 = 58 := by omega
                have hF : (pt_ruF t m A p) = (h159 3 2) := by unfold pt_ruF; rw [if_neg (by omega), pt_ite_f (fun w => w ⟨by omega, y50_⟩), pt_ite_t (P := pt_KN t m A (pt_nt t m p)) y57_]; omega
                exact ov_retz (st := []) d_66_76 rfl (by omega) ⟨_, rfl, I160, (fun a ca => (fr173 a ca)), (Or.inl ⟨rfl, (by show (h159 3 2) = (pt_ruF t m A p) ∧ 1 ≤ (pt_ruF t m A p) ∧ (h159 3 1) = (h 3 1); omega)⟩)⟩
        · omega
      · skip
        show ov_R u d ov_m66 45 [(0, ov_r 3)] [ov_i 1] z4 h5 (P_fReader_readRule_3_k3_1_58 F z h t m p A)
        have y51_ : ∃ j : Int, 0 ≤ j ∧ j < 20 ∧ pt_rv j = (pt_w256 t m (pt_nt t m p)) := y51
        refine ov_ifeq (tgt := 54) d_66_45 (by decide) (by omega) (fun c178 => ?_) (fun c178 => ?_)
        · omega
        · skip
          refine ov_blk (ls2 := [(0, ov_r 3)]) (st2 := [ov_i 1, ov_r 3]) (pc2 := 50) b_66_48_2 rfl rfl ?_
          refine ov_cV (as := [ov_i 1]) (st := []) (d2 := d - 1) d_66_50 lk_Reader_58 rfl (Nat.le_of_ble_eq_true rfl) (c := 6) (zb_3 I6) (zs_3 I6) ⟨by decide, rfl⟩ (by omega) (c_fReader_fail_3 t m (pt_nt t m p) (d - 1) (by omega) U I6 (ov_kws hw (by decide +kernel)) 1 (by omega) (by show 1 ≤ (1 : Int) ∧ (1 : Int) ≤ 5; omega) (show h5 2 = t from Eq.trans (show h5 2 = h 2 from E9) et) y8_) ?_
          rintro _ z180 h181 ⟨v179, rfl, I182, y183, y184⟩
          have E185 : h181 1 = h5 1 := Eq.trans (y183 1 (by decide)) (show h5 1 = h5 1 from rfl)
          have E186 : h181 2 = h 2 := Eq.trans (y183 2 (by decide)) (show h5 2 = h 2 from E9)
          have E187 : h181 58 = h 58 := Eq.trans (y183 58 (by decide)) (show h5 58 = h 58 from E11)
          have E188 : h181 59 = h 59 := Eq.trans (y183 59 (by decide)) (show h5 59 = h 59 from E12)
          have E189 : h181 60 = h 60 := Eq.trans (y183 60 (by decide)) (show h5 60 = h 60 from E13)
          have E190 : h181 61 = h 61 := Eq.trans (y183 61 (by decide)) (show h5 61 = h 61 from E14)
          have E191 : h181 62 = h 62 := Eq.trans (y183 62 (by decide)) (show h5 62 = h 62 from E15)
          have E192 : h181 63 = h 63 := Eq.trans (y183 63 (by decide)) (show h5 63 = h 63 from E16)
          have E193 : h181 64 = h 64 := Eq.trans (y183 64 (by decide)) (show h5 64 = h 64 from E17)
          have E194 : h181 66 = h 66 := Eq.trans (y183 66 (by decide)) (show h5 66 = h 66 from E18)
          have fr195 : ∀ a : Int, a ≠ 1 ∧ a ≠ 3 ∧ a ≠ 58 ∧ (a < 66 ∨ 68 < a) → h181 a = h a := fun a ca => Eq.trans (y183 a (by omega)) (fr19 a ca)
          have cf197 : h5 3 1 = h 3 1 := congrFun E10 1
          rcases y184 with ⟨rfl, f198⟩
          · skip
            show ov_R u d ov_m66 53 [(0, ov_r 3)] [ov_i 0] z180 h181 (P_fReader_readRule_3_k3_1_58 F z h t m p A)
            have f199 : (h181 3 2) = (1 : Int) + 16 * (pt_nt t m p) ∧ (h181 3 1) = (h5 3 1) := f198
            clear f198
            have e196 : h181 3 1 = 58 := by omega
            have hF : (pt_ruF t m A p) = (h181 3 2) := by unfold pt_ruF; rw [if_neg (by omega), pt_ite_t (fun w => w.2 y51_)]; omega
            exact ov_retz (st := []) d_66_53 rfl (by omega) ⟨_, rfl, I182, (fun a ca => (fr195 a ca)), (Or.inl ⟨rfl, (by show (h181 3 2) = (pt_ruF t m A p) ∧ 1 ≤ (pt_ruF t m A p) ∧ (h181 3 1) = (h 3 1); omega)⟩)⟩
  · skip
    refine ov_blk (ls2 := [(0, ov_r 3)]) (st2 := [ov_i 5, ov_r 3]) (pc2 := 13) b_66_11_2 rfl rfl ?_
    refine ov_cV (as := [ov_i 5]) (st := []) (d2 := d - 1) d_66_13 lk_Reader_58 rfl (Nat.le_of_ble_eq_true rfl) (c := 6) (zb_3 I) (zs_3 I) ⟨by decide, rfl⟩ (by omega) (c_fReader_fail_3 t m p (d - 1) (by omega) U I (ov_kws hw (by decide +kernel)) 5 (by omega) (by show 1 ≤ (5 : Int) ∧ (5 : Int) ≤ 5; omega) (show h 2 = t from Eq.trans (show h 2 = h 2 from rfl) et) tc) ?_
    rintro _ z201 h202 ⟨v200, rfl, I203, y204, y205⟩
    have E206 : h202 1 = h 1 := Eq.trans (y204 1 (by decide)) (show h 1 = h 1 from rfl)
    have E207 : h202 2 = h 2 := Eq.trans (y204 2 (by decide)) (show h 2 = h 2 from rfl)
    have E208 : h202 58 = h 58 := Eq.trans (y204 58 (by decide)) (show h 58 = h 58 from rfl)
    have E209 : h202 59 = h 59 := Eq.trans (y204 59 (by decide)) (show h 59 = h 59 from rfl)
    have E210 : h202 60 = h 60 := Eq.trans (y204 60 (by decide)) (show h 60 = h 60 from rfl)
    have E211 : h202 61 = h 61 := Eq.trans (y204 61 (by decide)) (show h 61 = h 61 from rfl)
    have E212 : h202 62 = h 62 := Eq.trans (y204 62 (by decide)) (show h 62 = h 62 from rfl)
    have E213 : h202 63 = h 63 := Eq.trans (y204 63 (by decide)) (show h 63 = h 63 from rfl)
    have E214 : h202 64 = h 64 := Eq.trans (y204 64 (by decide)) (show h 64 = h 64 from rfl)
    have E215 : h202 66 = h 66 := Eq.trans (y204 66 (by decide)) (show h 66 = h 66 from rfl)
    have fr216 : ∀ a : Int, a ≠ 1 ∧ a ≠ 3 ∧ a ≠ 58 ∧ (a < 66 ∨ 68 < a) → h202 a = h a := fun a ca => Eq.trans (y204 a (by omega)) rfl
    rcases y205 with ⟨rfl, f218⟩
    · skip
      show ov_R u d ov_m66 16 [(0, ov_r 3)] [ov_i 0] z201 h202 (P_fReader_readRule_3_k3_1_58 F z h t m p A)
      have f219 : (h202 3 2) = (5 : Int) + 16 * p ∧ (h202 3 1) = (h 3 1) := f218
      clear f218
      have e217 : h202 3 1 = 58 := by omega
      have hF : (pt_ruF t m A p) = (h202 3 2) := by unfold pt_ruF; rw [if_pos (by omega)]; omega
      exact ov_retz (st := []) d_66_16 rfl (by omega) ⟨_, rfl, I203, (fun a ca => (fr216 a ca)), (Or.inl ⟨rfl, (by show (h202 3 2) = (pt_ruF t m A p) ∧ 1 ≤ (pt_ruF t m A p) ∧ (h202 3 1) = (h 3 1); omega)⟩)⟩

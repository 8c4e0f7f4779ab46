abbrev P_fReader_readBar_3_k3_1_70 (F : ov_H) (z : ov_Z) (h : ov_H) (t : Int → Int) (m : Int) (p : Int) (A : Int → Int) : Option ov_V → ov_Z → ov_H → Prop := fun r0 z' h' => ∃ r : Int, r0 = some (ov_i r) ∧ ov_I F z' h' ∧ (∀ a : Int, a ≠ 1 ∧ a ≠ 3 ∧ a ≠ 75 → h' a = h a) ∧ ((r = 0 ∧ ((h' 3 2) = (pt_brF t m A p) ∧ 1 ≤ (pt_brF t m A p) ∧ (h' 3 1) = (h 3 1))) ∨ (r = 0 ∧ ((pt_brF t m A p) = 0 ∧ (pt_is t m (pt_nt t m (pt_nt t m (pt_nt t m (pt_nt t m p)))) 59) = 0 ∧ (h' 3 2) = 1 + 16 * (pt_nt t m (pt_nt t m (pt_nt t m (pt_nt t m p)))) ∧ 0 ≤ (pt_nt t m (pt_nt t m (pt_nt t m (pt_nt t m p)))) ∧ (h' 3 1) = (h 3 1))) ∨ (r = 1 ∧ ((pt_brF t m A p) = 0 ∧ (pt_is t m (pt_nt t m (pt_nt t m (pt_nt t m (pt_nt t m p)))) 59) = 1 ∧ (h' 3 1) = (h 3 1) ∧ (h' 3 2) = (h 3 2)) ∧ (pt_TC t m (h' 1) (pt_nt t m (pt_nt t m (pt_nt t m (pt_nt t m (pt_nt t m p)))))) ∧ (pt_CR t m (pt_brA t m A p) (h' 70) (h' 71) (h' 72) (h' 73) (h' 74) (h' 75) (h' 76) (h' 78))))
set_option maxHeartbeats 4000000 in
theorem c_fReader_readBar_3_k3_1_70 {u : ov_U} {F : ov_H} (t : Int → Int) (m : Int) (p : Int) (A : Int → Int) {z : ov_Z} {h : ov_H} (d : Nat) (hd : 6 ≤ d) (U : ov_cap u) (I : ov_I F z h) (hw : ov_kw 37778931862957161709578 F) (k0 : h 3 1 = 70) (et : (h 2) = t) (tc : pt_TC t m (h 1) p) (cr : pt_CR t m A (h 70) (h 71) (h 72) (h 73) (h 74) (h 75) (h 76) (h 78)) : ov_T u d ov_m64 [ov_r 3] z h (P_fReader_readBar_3_k3_1_70 F z h t m p A) := by
  refine ov_en rfl (Nat.le_of_ble_eq_true rfl) ?_
  show ov_R u d ov_m64 0 [(0, ov_r 3)] [] z h (P_fReader_readBar_3_k3_1_70 F z h t m p A)
  have gA := pt_CR_r cr
  have tb := pt_TC_b tc
  refine ov_blk (ls2 := [(0, ov_r 3)]) (st2 := [ov_r 3]) (pc2 := 1) b_64_0_1 rfl rfl ?_
  refine ov_getf (v := ov_r 1) d_64_1 fl_Reader_9 (zb_3 I) (zs_3 I) (congrArg ov_r (rg_3_0 I)) ?_
  refine ov_cV (as := []) (st := []) (d2 := d - 1) d_64_4 lk_Reader_75 rfl (Nat.le_of_ble_eq_true rfl) (c := 8) (zb_1 I) (zs_1 I) ⟨by decide, rfl⟩ (by omega) (c_fTape_advance_1_t t m p (d - 1) (by omega) U I (ov_kws hw (by decide +kernel)) (show h 2 = t from Eq.trans (show h 2 = h 2 from rfl) et) tc) ?_
  rintro _ z1 h2 ⟨rfl, I3, y4, y5⟩
  have E6 : h2 2 = h 2 := Eq.trans (y4 2 (by decide)) (show h 2 = h 2 from rfl)
  have E7 : h2 3 = h 3 := Eq.trans (y4 3 (by decide)) (show h 3 = h 3 from rfl)
  have E8 : h2 70 = h 70 := Eq.trans (y4 70 (by decide)) (show h 70 = h 70 from rfl)
  have E9 : h2 71 = h 71 := Eq.trans (y4 71 (by decide)) (show h 71 = h 71 from rfl)
  have E10 : h2 72 = h 72 := Eq.trans (y4 72 (by decide)) (show h 72 = h 72 from rfl)
  have E11 : h2 73 = h 73 := Eq.trans (y4 73 (by decide)) (show h 73 = h 73 from rfl)
  have E12 : h2 74 = h 74 := Eq.trans (y4 74 (by decide)) (show h 74 = h 74 from rfl)
  have E13 : h2 75 = h 75 := Eq.trans (y4 75 (by decide)) (show h 75 = h 75 from rfl)
  have E14 : h2 76 = h 76 := Eq.trans (y4 76 (by decide)) (show h 76 = h 76 from rfl)
  have E15 : h2 78 = h 78 := Eq.trans (y4 78 (by decide)) (show h 78 = h 78 from rfl)
  have fr16 : ∀ a : Int, a ≠ 1 ∧ a ≠ 3 ∧ a ≠ 75 → h2 a = h a := fun a ca => Eq.trans (y4 a (by omega)) rfl
  have e17 : h2 3 1 = 70 := Eq.trans (congrFun (show h2 3 = h 3 from y4 3 (by decide)) 1) k0
  have y5_ : pt_TC t m (h2 1) (pt_nt t m p) := y5
  have g18 := pt_TC_b y5_
  have g19 := pt_nt_le (t := t) (n := m) (p := p) (by omega)
  show ov_R u d ov_m64 7 [(0, ov_r 3)] [] z1 h2 (P_fReader_readBar_3_k3_1_70 F z h t m p A)
  refine ov_blk (ls2 := [(0, ov_r 3)]) (st2 := [ov_r 3, ov_i 0, ov_r 3]) (pc2 := 10) b_64_7_3 rfl rfl ?_
  refine ov_getf (v := ov_r 70) d_64_10 fl_Reader_15 (zb_3 I3) (zs_3 I3) (congrArg ov_r e17) ?_
  have e20 : h2 70 0 = (A 0) := Eq.trans (congrFun (show h2 70 = h 70 from E8) 0) (pt_CR_0 cr)
  refine ov_getf (v := ov_i (A 0)) d_64_13 fl_Reader_102 (zb_70 I3) (zs_70 I3) (congrArg ov_i e20) ?_
  have g21 := rg_70_0 I3
  rw [e20] at g21
  refine ov_blk (ls2 := [(0, ov_r 3)]) (st2 := [ov_i ((A 0) - 1), ov_i 0, ov_r 3]) (pc2 := 18) b_64_16_2 rfl rfl ?_
  refine ov_cV (as := [ov_i 0, ov_i ((A 0) - 1)]) (st := []) (d2 := d - 1) d_64_18 lk_Reader_78 rfl (Nat.le_of_ble_eq_true rfl) (c := 6) (zb_3 I3) (zs_3 I3) ⟨by decide, rfl⟩ (by omega) (c_fReader_takeNumber_3 t m (pt_nt t m p) (d - 1) (by omega) U I3 (ov_kws hw (by decide +kernel)) 0 ((A 0) - 1) (by omega) (by omega) (show h2 2 = t from Eq.trans (show h2 2 = h 2 from E6) et) y5_) ?_
  rintro _ z23 h24 ⟨v22, rfl, I25, y26, y27⟩
  have E28 : h24 2 = h 2 := Eq.trans (y26 2 (by decide)) (show h2 2 = h 2 from E6)
  have E29 : h24 70 = h 70 := Eq.trans (y26 70 (by decide)) (show h2 70 = h 70 from E8)
  have E30 : h24 71 = h 71 := Eq.trans (y26 71 (by decide)) (show h2 71 = h 71 from E9)
  have E31 : h24 72 = h 72 := Eq.trans (y26 72 (by decide)) (show h2 72 = h 72 from E10)
  have E32 : h24 73 = h 73 := Eq.trans (y26 73 (by decide)) (show h2 73 = h 73 from E11)
  have E33 : h24 74 = h 74 := Eq.trans (y26 74 (by decide)) (show h2 74 = h 74 from E12)
  have E34 : h24 75 = h 75 := Eq.trans (y26 75 (by decide)) (show h2 75 = h 75 from E13)
  have E35 : h24 76 = h 76 := Eq.trans (y26 76 (by decide)) (show h2 76 = h 76 from E14)
  have E36 : h24 78 = h 78 := Eq.trans (y26 78 (by decide)) (show h2 78 = h 78 from E15)
  have fr37 : ∀ a : Int, a ≠ 1 ∧ a ≠ 3 ∧ a ≠ 75 → h24 a = h a := fun a ca => Eq.trans (y26 a (by omega)) (fr16 a ca)
  have cf39 : h2 3 1 = h 3 1 := congrFun E7 1
  have cf40 : h2 3 2 = h 3 2 := congrFun E7 2
  rcases y27 with ⟨rfl, f41⟩ | ⟨rfl, f42, y43⟩
  · skip
    show ov_R u d ov_m64 21 [(0, ov_r 3)] [ov_i 0] z23 h24 (P_fReader_readBar_3_k3_1_70 F z h t m p A)
    have f44 : (h24 3 2) = (pt_fN t m (0 : Int) ((A 0) - 1) (pt_nt t m p)) ∧ 1 ≤ (pt_fN t m (0 : Int) ((A 0) - 1) (pt_nt t m p)) ∧ (h24 3 1) = (h2 3 1) := f41
    clear f41
    have e38 : h24 3 1 = 70 := by omega
    refine ov_ifne (tgt := 26) d_64_21 (by decide) (by omega) (fun c45 => ?_) (fun c45 => ?_)
    · omega
    · skip
      refine ov_blk (ls2 := [(0, ov_r 3)]) (st2 := [ov_i 0]) (pc2 := 25) b_64_24_1 rfl rfl ?_
      have hF : (pt_brF t m A p) = (h24 3 2) := by unfold pt_brF; (repeat' split) <;> omega
      exact ov_retz (st := []) d_64_25 rfl (by omega) ⟨_, rfl, I25, (fun a ca => (fr37 a ca)), (Or.inl ⟨rfl, (by show (h24 3 2) = (pt_brF t m A p) ∧ 1 ≤ (pt_brF t m A p) ∧ (h24 3 1) = (h 3 1); omega)⟩)⟩
  · skip
    show ov_R u d ov_m64 21 [(0, ov_r 3)] [ov_i 1] z23 h24 (P_fReader_readBar_3_k3_1_70 F z h t m p A)
    have f46 : (pt_fN t m (0 : Int) ((A 0) - 1) (pt_nt t m p)) = 0 ∧ (0 : Int) ≤ (pt_nm t m (pt_nt t m p)) ∧ (pt_nm t m (pt_nt t m p)) ≤ ((A 0) - 1) ∧ (h24 3 3) = (pt_nm t m (pt_nt t m p)) ∧ 0 ≤ (pt_nm t m (pt_nt t m p)) ∧ (pt_nm t m (pt_nt t m p)) ≤ 9999 ∧ (h24 3 1) = (h2 3 1) ∧ (h24 3 2) = (h2 3 2) := f42
    clear f42
    have e38 : h24 3 1 = 70 := by omega
    have y43_ : pt_TC t m (h24 1) (pt_nt t m (pt_nt t m p)) := y43
    have g47 := pt_TC_b y43_
    have g48 := pt_nt_le (t := t) (n := m) (p := (pt_nt t m p)) (by omega)
    have e49 : h24 3 3 = (pt_nm t m (pt_nt t m p)) := by omega
    refine ov_ifne (tgt := 26) d_64_21 (by decide) (by omega) (fun c50 => ?_) (fun c50 => ?_)
    · skip
      refine ov_blk (ls2 := [(0, ov_r 3)]) (st2 := [ov_r 3]) (pc2 := 27) b_64_26_1 rfl rfl ?_
      have e51 : h24 3 3 = (pt_nm t m (pt_nt t m p)) := e49
      refine ov_getf (v := ov_i (pt_nm t m (pt_nt t m p))) d_64_27 fl_Reader_81 (zb_3 I25) (zs_3 I25) (congrArg ov_i e51) ?_
      have g52 := rg_3_3 I25
      rw [e51] at g52
      refine ov_blk (ls2 := [(0, ov_r 3), (1, ov_i (pt_nm t m (pt_nt t m p)))]) (st2 := [ov_r 3, ov_i 0, ov_r 3]) (pc2 := 34) b_64_30_4 rfl rfl ?_
      refine ov_getf (v := ov_r 70) d_64_34 fl_Reader_15 (zb_3 I25) (zs_3 I25) (congrArg ov_r e38) ?_
      have e53 : h24 70 1 = (A 1) := Eq.trans (congrFun (show h24 70 = h 70 from E29) 1) (pt_CR_1 cr)
      refine ov_getf (v := ov_i (A 1)) d_64_37 fl_Reader_105 (zb_70 I25) (zs_70 I25) (congrArg ov_i e53) ?_
      have g54 := rg_70_1 I25
      rw [e53] at g54
      refine ov_blk (ls2 := [(0, ov_r 3), (1, ov_i (pt_nm t m (pt_nt t m p)))]) (st2 := [ov_i ((A 1) - 1), ov_i 0, ov_r 3]) (pc2 := 42) b_64_40_2 rfl rfl ?_
      refine ov_cV (as := [ov_i 0, ov_i ((A 1) - 1)]) (st := []) (d2 := d - 1) d_64_42 lk_Reader_78 rfl (Nat.le_of_ble_eq_true rfl) (c := 6) (zb_3 I25) (zs_3 I25) ⟨by decide, rfl⟩ (by omega) (c_fReader_takeNumber_3 t m (pt_nt t m (pt_nt t m p)) (d - 1) (by omega) U I25 (ov_kws hw (by decide +kernel)) 0 ((A 1) - 1) (by omega) (by omega) (show h24 2 = t from Eq.trans (show h24 2 = h 2 from E28) et) y43_) ?_
      rintro _ z56 h57 ⟨v55, rfl, I58, y59, y60⟩
      have E61 : h57 2 = h 2 := Eq.trans (y59 2 (by decide)) (show h24 2 = h 2 from E28)
      have E62 : h57 70 = h 70 := Eq.trans (y59 70 (by decide)) (show h24 70 = h 70 from E29)
      have E63 : h57 71 = h 71 := Eq.trans (y59 71 (by decide)) (show h24 71 = h 71 from E30)
      have E64 : h57 72 = h 72 := Eq.trans (y59 72 (by decide)) (show h24 72 = h 72 from E31)
      have E65 : h57 73 = h 73 := Eq.trans (y59 73 (by decide)) (show h24 73 = h 73 from E32)
      have E66 : h57 74 = h 74 := Eq.trans (y59 74 (by decide)) (show h24 74 = h 74 from E33)
      have E67 : h57 75 = h 75 := Eq.trans (y59 75 (by decide)) (show h24 75 = h 75 from E34)
      have E68 : h57 76 = h 76 := Eq.trans (y59 76 (by decide)) (show h24 76 = h 76 from E35)
      have E69 : h57 78 = h 78 := Eq.trans (y59 78 (by decide)) (show h24 78 = h 78 from E36)
      have fr70 : ∀ a : Int, a ≠ 1 ∧ a ≠ 3 ∧ a ≠ 75 → h57 a = h a := fun a ca => Eq.trans (y59 a (by omega)) (fr37 a ca)
      rcases y60 with ⟨rfl, f72⟩ | ⟨rfl, f73, y74⟩
      · skip
        show ov_R u d ov_m64 45 [(0, ov_r 3), (1, ov_i (pt_nm t m (pt_nt t m p)))] [ov_i 0] z56 h57 (P_fReader_readBar_3_k3_1_70 F z h t m p A)
        have f75 : (h57 3 2) = (pt_fN t m (0 : Int) ((A 1) - 1) (pt_nt t m (pt_nt t m p))) ∧ 1 ≤ (pt_fN t m (0 : Int) ((A 1) - 1) (pt_nt t m (pt_nt t m p))) ∧ (h57 3 1) = (h24 3 1) := f72
        clear f72
        have e71 : h57 3 1 = 70 := by omega
        refine ov_ifne (tgt := 50) d_64_45 (by decide) (by omega) (fun c76 => ?_) (fun c76 => ?_)
        · omega
        · skip
          refine ov_blk (ls2 := [(0, ov_r 3), (1, ov_i (pt_nm t m (pt_nt t m p)))]) (st2 := [ov_i 0]) (pc2 := 49) b_64_48_1 rfl rfl ?_
          have hF : (pt_brF t m A p) = (h57 3 2) := by unfold pt_brF; (repeat' split) <;> omega
          exact ov_retz (st := []) d_64_49 rfl (by omega) ⟨_, rfl, I58, (fun a ca => (fr70 a ca)), (Or.inl ⟨rfl, (by show (h57 3 2) = (pt_brF t m A p) ∧ 1 ≤ (pt_brF t m A p) ∧ (h57 3 1) = (h 3 1); omega)⟩)⟩
      · skip
        show ov_R u d ov_m64 45 [(0, ov_r 3), (1, ov_i (pt_nm t m (pt_nt t m p)))] [ov_i 1] z56 h57 (P_fReader_readBar_3_k3_1_70 F z h t m p A)
        have f77 : (pt_fN t m (0 : Int) ((A 1) - 1) (pt_nt t m (pt_nt t m p))) = 0 ∧ (0 : Int) ≤ (pt_nm t m (pt_nt t m (pt_nt t m p))) ∧ (pt_nm t m (pt_nt t m (pt_nt t m p))) ≤ ((A 1) - 1) ∧ (h57 3 3) = (pt_nm t m (pt_nt t m (pt_nt t m p))) ∧ 0 ≤ (pt_nm t m (pt_nt t m (pt_nt t m p))) ∧ (pt_nm t m (pt_nt t m (pt_nt t m p))) ≤ 9999 ∧ (h57 3 1) = (h24 3 1) ∧ (h57 3 2) = (h24 3 2) := f73
        clear f73
        have e71 : h57 3 1 = 70 := by omega
        have y74_ : pt_TC t m (h57 1) (pt_nt t m (pt_nt t m (pt_nt t m p))) := y74
        have g78 := pt_TC_b y74_
        have g79 := pt_nt_le (t := t) (n := m) (p := (pt_nt t m (pt_nt t m p))) (by omega)
        have e80 : h57 3 3 = (pt_nm t m (pt_nt t m (pt_nt t m p))) := by omega
        refine ov_ifne (tgt := 50) d_64_45 (by decide) (by omega) (fun c81 => ?_) (fun c81 => ?_)
        · skip
          refine ov_blk (ls2 := [(0, ov_r 3), (1, ov_i (pt_nm t m (pt_nt t m p)))]) (st2 := [ov_r 3, ov_i 6, ov_i (pt_nm t m (pt_nt t m p))]) (pc2 := 54) b_64_50_3 rfl rfl ?_
          have e82 : h57 3 3 = (pt_nm t m (pt_nt t m (pt_nt t m p))) := e80
          refine ov_getf (v := ov_i (pt_nm t m (pt_nt t m (pt_nt t m p)))) d_64_54 fl_Reader_81 (zb_3 I58) (zs_3 I58) (congrArg ov_i e82) ?_
          have g83 := rg_3_3 I58
          rw [e82] at g83
          refine ov_blk (ls2 := [(0, ov_r 3), (1, ov_i ((pt_nm t m (pt_nt t m p)) + (6 * (pt_nm t m (pt_nt t m (pt_nt t m p))))))]) (st2 := [ov_r 3]) (pc2 := 61) b_64_57_4 rfl rfl ?_
          refine ov_cV (as := []) (st := []) (d2 := d - 1) d_64_61 lk_Reader_54 rfl (Nat.le_of_ble_eq_true rfl) (c := 6) (zb_3 I58) (zs_3 I58) ⟨by decide, rfl⟩ (by omega) (c_fReader_wayTold_3 t m (pt_nt t m (pt_nt t m (pt_nt t m p))) (d - 1) (by omega) U I58 y74_) ?_
          rintro _ _ _ ⟨v84, rfl, rfl, rfl, rfl⟩
          have g85 := @pt_wt_b t m (pt_nt t m (pt_nt t m (pt_nt t m p)))
          show ov_R u d ov_m64 64 [(0, ov_r 3), (1, ov_i ((pt_nm t m (pt_nt t m p)) + (6 * (pt_nm t m (pt_nt t m (pt_nt t m p))))))] [ov_i (pt_wt t m (pt_nt t m (pt_nt t m (pt_nt t m p))))] z56 h57 (P_fReader_readBar_3_k3_1_70 F z h t m p A)
          refine ov_blk (ls2 := [(0, ov_r 3), (1, ov_i ((pt_nm t m (pt_nt t m p)) + (6 * (pt_nm t m (pt_nt t m (pt_nt t m p)))))), (2, ov_i (pt_wt t m (pt_nt t m (pt_nt t m (pt_nt t m p)))))]) (st2 := [ov_i (-1), ov_i (pt_wt t m (pt_nt t m (pt_nt t m (pt_nt t m p))))]) (pc2 := 67) b_64_64_3 rfl rfl ?_
          refine ov_icne (tgt := 76) d_64_67 (by decide) (by omega) (by omega) (fun c86 => ?_) (fun c86 => ?_)
          · skip
            refine ov_blk (ls2 := [(0, ov_r 3), (1, ov_i ((pt_nm t m (pt_nt t m p)) + (6 * (pt_nm t m (pt_nt t m (pt_nt t m p)))))), (2, ov_i (pt_wt t m (pt_nt t m (pt_nt t m (pt_nt t m p)))))]) (st2 := [ov_r 3]) (pc2 := 77) b_64_76_1 rfl rfl ?_
            refine ov_getf (v := ov_r 70) d_64_77 fl_Reader_15 (zb_3 I58) (zs_3 I58) (congrArg ov_r e71) ?_
            refine ov_blk (ls2 := [(0, ov_r 3), (1, ov_i ((pt_nm t m (pt_nt t m p)) + (6 * (pt_nm t m (pt_nt t m (pt_nt t m p)))))), (2, ov_i (pt_wt t m (pt_nt t m (pt_nt t m (pt_nt t m p)))))]) (st2 := [ov_i (pt_wt t m (pt_nt t m (pt_nt t m (pt_nt t m p)))), ov_i ((pt_nm t m (pt_nt t m p)) + (6 * (pt_nm t m (pt_nt t m (pt_nt t m p))))), ov_r 70]) (pc2 := 82) b_64_80_2 rfl rfl ?_
            refine ov_cV (as := [ov_i ((pt_nm t m (pt_nt t m p)) + (6 * (pt_nm t m (pt_nt t m (pt_nt t m p))))), ov_i (pt_wt t m (pt_nt t m (pt_nt t m (pt_nt t m p))))]) (st := []) (d2 := d - 1) d_64_82 lk_Reader_69 rfl (Nat.le_of_ble_eq_true rfl) (c := 9) (zb_70 I58) (zs_70 I58) ⟨by decide, rfl⟩ (by omega) (c_fTown_isBarred_70 t m A (d - 1) (by omega) U I58 ((pt_nm t m (pt_nt t m p)) + (6 * (pt_nm t m (pt_nt t m (pt_nt t m p))))) (pt_wt t m (pt_nt t m (pt_nt t m (pt_nt t m p)))) (by omega) (by omega) (by show 0 ≤ ((pt_nm t m (pt_nt t m p)) + (6 * (pt_nm t m (pt_nt t m (pt_nt t m p))))) ∧ ((pt_nm t m (pt_nt t m p)) + (6 * (pt_nm t m (pt_nt t m (pt_nt t m p))))) < 54; omega) (by rw [show h57 70 = h 70 from E62, show h57 71 = h 71 from E63, show h57 72 = h 72 from E64, show h57 73 = h 73 from E65, show h57 74 = h 74 from E66, show h57 75 = h 75 from E67, show h57 76 = h 76 from E68, show h57 78 = h 78 from E69]; exact cr)) ?_
            rintro _ _ _ ⟨v87, rfl, rfl, rfl, y88⟩
            rcases y88 with ⟨rfl, f89⟩ | ⟨rfl, f90⟩
            · skip
              show ov_R u d ov_m64 85 [(0, ov_r 3), (1, ov_i ((pt_nm t m (pt_nt t m p)) + (6 * (pt_nm t m (pt_nt t m (pt_nt t m p)))))), (2, ov_i (pt_wt t m (pt_nt t m (pt_nt t m (pt_nt t m p)))))] [ov_i 0] z56 h57 (P_fReader_readBar_3_k3_1_70 F z h t m p A)
              have f91 : (ov_and (ov_shr (A (226 + ((pt_nm t m (pt_nt t m p)) + (6 * (pt_nm t m (pt_nt t m (pt_nt t m p))))))) (pt_wt t m (pt_nt t m (pt_nt t m (pt_nt t m p))))) 1) = 0 := f89
              clear f89
              refine ov_ifeq (tgt := 94) d_64_85 (by decide) (by omega) (fun c92 => ?_) (fun c92 => ?_)
              · skip
                refine ov_blk (ls2 := [(0, ov_r 3), (1, ov_i ((pt_nm t m (pt_nt t m p)) + (6 * (pt_nm t m (pt_nt t m (pt_nt t m p)))))), (2, ov_i (pt_wt t m (pt_nt t m (pt_nt t m (pt_nt t m p)))))]) (st2 := [ov_r 3]) (pc2 := 95) b_64_94_1 rfl rfl ?_
                refine ov_getf (v := ov_r 70) d_64_95 fl_Reader_15 (zb_3 I58) (zs_3 I58) (congrArg ov_r e71) ?_
                refine ov_getf (v := ov_r 75) d_64_98 fl_Reader_187 (zb_70 I58) (zs_70 I58) (congrArg ov_r (rg_70_6 I58)) ?_
                refine ov_blk (ls2 := [(0, ov_r 3), (1, ov_i ((pt_nm t m (pt_nt t m p)) + (6 * (pt_nm t m (pt_nt t m (pt_nt t m p)))))), (2, ov_i (pt_wt t m (pt_nt t m (pt_nt t m (pt_nt t m p)))))]) (st2 := [ov_i ((pt_nm t m (pt_nt t m p)) + (6 * (pt_nm t m (pt_nt t m (pt_nt t m p))))), ov_r 75, ov_i ((pt_nm t m (pt_nt t m p)) + (6 * (pt_nm t m (pt_nt t m (pt_nt t m p))))), ov_r 75]) (pc2 := 103) b_64_101_2 rfl rfl ?_
                refine ov_iald d_64_103 (zb_75 I58) (zs_75 I58) (by omega) ?_
                have g94 := ra_75 I58 ((pt_nm t m (pt_nt t m p)) + (6 * (pt_nm t m (pt_nt t m (pt_nt t m p)))))
                have e93 : h57 75 ((pt_nm t m (pt_nt t m p)) + (6 * (pt_nm t m (pt_nt t m (pt_nt t m p))))) = (A (226 + ((pt_nm t m (pt_nt t m p)) + (6 * (pt_nm t m (pt_nt t m (pt_nt t m p))))))) := Eq.trans (congrFun (show h57 75 = h 75 from E67) ((pt_nm t m (pt_nt t m p)) + (6 * (pt_nm t m (pt_nt t m (pt_nt t m p)))))) (pt_CR_b cr (by omega))
                rw [e93] at g94
                rw [e93]
                show ov_R u d ov_m64 104 [(0, ov_r 3), (1, ov_i ((pt_nm t m (pt_nt t m p)) + (6 * (pt_nm t m (pt_nt t m (pt_nt t m p)))))), (2, ov_i (pt_wt t m (pt_nt t m (pt_nt t m (pt_nt t m p)))))] [ov_i (A (226 + ((pt_nm t m (pt_nt t m p)) + (6 * (pt_nm t m (pt_nt t m (pt_nt t m p))))))), ov_i ((pt_nm t m (pt_nt t m p)) + (6 * (pt_nm t m (pt_nt t m (pt_nt t m p))))), ov_r 75] z56 h57 (P_fReader_readBar_3_k3_1_70 F z h t m p A)
                refine ov_blk (ls2 := [(0, ov_r 3), (1, ov_i ((pt_nm t m (pt_nt t m p)) + (6 * (pt_nm t m (pt_nt t m (pt_nt t m p)))))), (2, ov_i (pt_wt t m (pt_nt t m (pt_nt t m (pt_nt t m p)))))]) (st2 := [ov_i (ov_or (A (226 + ((pt_nm t m (pt_nt t m p)) + (6 * (pt_nm t m (pt_nt t m (pt_nt t m p))))))) (ov_shl 1 (pt_wt t m (pt_nt t m (pt_nt t m (pt_nt t m p)))))), ov_i ((pt_nm t m (pt_nt t m p)) + (6 * (pt_nm t m (pt_nt t m (pt_nt t m p))))), ov_r 75]) (pc2 := 108) b_64_104_4 rfl rfl ?_
                have g95 := ov_shlg 1 (pt_wt t m (pt_nt t m (pt_nt t m (pt_nt t m p))))
                have g96 := ov_org (A (226 + ((pt_nm t m (pt_nt t m p)) + (6 * (pt_nm t m (pt_nt t m (pt_nt t m p))))))) (ov_shl 1 (pt_wt t m (pt_nt t m (pt_nt t m (pt_nt t m p)))))
                refine ov_iast d_64_108 (zb_75 I58) (zs_75 I58) (by omega) ?_
                have I97 := ua_75 (k := ((pt_nm t m (pt_nt t m p)) + (6 * (pt_nm t m (pt_nt t m (pt_nt t m p)))))) (x := (ov_or (A (226 + ((pt_nm t m (pt_nt t m p)) + (6 * (pt_nm t m (pt_nt t m (pt_nt t m p))))))) (ov_shl 1 (pt_wt t m (pt_nt t m (pt_nt t m (pt_nt t m p))))))) I58 (by omega) (hw 75 (by decide +kernel))
                refine ov_blk (ls2 := [(0, ov_r 3), (1, ov_i ((pt_nm t m (pt_nt t m p)) + (6 * (pt_nm t m (pt_nt t m (pt_nt t m p)))))), (2, ov_i (pt_wt t m (pt_nt t m (pt_nt t m (pt_nt t m p)))))]) (st2 := [ov_r 3]) (pc2 := 110) b_64_109_1 rfl rfl ?_
                refine ov_getf (v := ov_r 1) d_64_110 fl_Reader_9 (zb_3 I97) (zs_3 I97) (congrArg ov_r (rg_3_0 I97)) ?_
                refine ov_cV (as := []) (st := []) (d2 := d - 1) d_64_113 lk_Reader_75 rfl (Nat.le_of_ble_eq_true rfl) (c := 8) (zb_1 I97) (zs_1 I97) ⟨by decide, rfl⟩ (by omega) (c_fTape_advance_1_t t m (pt_nt t m (pt_nt t m (pt_nt t m p))) (d - 1) (by omega) U I97 (ov_kws hw (by decide +kernel)) (show (ov_up h57 75 ((pt_nm t m (pt_nt t m p)) + (6 * (pt_nm t m (pt_nt t m (pt_nt t m p))))) (ov_or (A (226 + ((pt_nm t m (pt_nt t m p)) + (6 * (pt_nm t m (pt_nt t m (pt_nt t m p))))))) (ov_shl 1 (pt_wt t m (pt_nt t m (pt_nt t m (pt_nt t m p))))))) 2 = t from Eq.trans (show (ov_up h57 75 ((pt_nm t m (pt_nt t m p)) + (6 * (pt_nm t m (pt_nt t m (pt_nt t m p))))) (ov_or (A (226 + ((pt_nm t m (pt_nt t m p)) + (6 * (pt_nm t m (pt_nt t m (pt_nt t m p))))))) (ov_shl 1 (pt_wt t m (pt_nt t m (pt_nt t m (pt_nt t m p))))))) 2 = h 2 from E61) et) (by rw [show (ov_up h57 75 ((pt_nm t m (pt_nt t m p)) + (6 * (pt_nm t m (pt_nt t m (pt_nt t m p))))) (ov_or (A (226 + ((pt_nm t m (pt_nt t m p)) + (6 * (pt_nm t m (pt_nt t m (pt_nt t m p))))))) (ov_shl 1 (pt_wt t m (pt_nt t m (pt_nt t m (pt_nt t m p))))))) 1 = h57 1 from rfl]; exact y74_)) ?_
                rintro _ z98 h99 ⟨rfl, I100, y101, y102⟩
                have E103 : h99 2 = h 2 := Eq.trans (y101 2 (by decide)) (show (ov_up h57 75 ((pt_nm t m (pt_nt t m p)) + (6 * (pt_nm t m (pt_nt t m (pt_nt t m p))))) (ov_or (A (226 + ((pt_nm t m (pt_nt t m p)) + (6 * (pt_nm t m (pt_nt t m (pt_nt t m p))))))) (ov_shl 1 (pt_wt t m (pt_nt t m (pt_nt t m (pt_nt t m p))))))) 2 = h 2 from E61)
                have E104 : h99 3 = h57 3 := Eq.trans (y101 3 (by decide)) (show (ov_up h57 75 ((pt_nm t m (pt_nt t m p)) + (6 * (pt_nm t m (pt_nt t m (pt_nt t m p))))) (ov_or (A (226 + ((pt_nm t m (pt_nt t m p)) + (6 * (pt_nm t m (pt_nt t m (pt_nt t m p))))))) (ov_shl 1 (pt_wt t m (pt_nt t m (pt_nt t m (pt_nt t m p))))))) 3 = h57 3 from rfl)
                have E105 : h99 70 = h 70 := Eq.trans (y101 70 (by decide)) (show (ov_up h57 75 ((pt_nm t m (pt_nt t m p)) + (6 * (pt_nm t m (pt_nt t m (pt_nt t m p))))) (ov_or (A (226 + ((pt_nm t m (pt_nt t m p)) + (6 * (pt_nm t m (pt_nt t m (pt_nt t m p))))))) (ov_shl 1 (pt_wt t m (pt_nt t m (pt_nt t m (pt_nt t m p))))))) 70 = h 70 from E62)
                have E106 : h99 71 = h 71 := Eq.trans (y101 71 (by decide)) (show (ov_up h57 75 ((pt_nm t m (pt_nt t m p)) + (6 * (pt_nm t m (pt_nt t m (pt_nt t m p))))) (ov_or (A (226 + ((pt_nm t m (pt_nt t m p)) + (6 * (pt_nm t m (pt_nt t m (pt_nt t m p))))))) (ov_shl 1 (pt_wt t m (pt_nt t m (pt_nt t m (pt_nt t m p))))))) 71 = h 71 from E63)
                have E107 : h99 72 = h 72 := Eq.trans (y101 72 (by decide)) (show (ov_up h57 75 ((pt_nm t m (pt_nt t m p)) + (6 * (pt_nm t m (pt_nt t m (pt_nt t m p))))) (ov_or (A (226 + ((pt_nm t m (pt_nt t m p)) + (6 * (pt_nm t m (pt_nt t m (pt_nt t m p))))))) (ov_shl 1 (pt_wt t m (pt_nt t m (pt_nt t m (pt_nt t m p))))))) 72 = h 72 from E64)
                have E108 : h99 73 = h 73 := Eq.trans (y101 73 (by decide)) (show (ov_up h57 75 ((pt_nm t m (pt_nt t m p)) + (6 * (pt_nm t m (pt_nt t m (pt_nt t m p))))) (ov_or (A (226 + ((pt_nm t m (pt_nt t m p)) + (6 * (pt_nm t m (pt_nt t m (pt_nt t m p))))))) (ov_shl 1 (pt_wt t m (pt_nt t m (pt_nt t m (pt_nt t m p))))))) 73 = h 73 from E65)
                have E109 : h99 74 = h 74 := Eq.trans (y101 74 (by decide)) (show (ov_up h57 75 ((pt_nm t m (pt_nt t m p)) + (6 * (pt_nm t m (pt_nt t m (pt_nt t m p))))) (ov_or (A (226 + ((pt_nm t m (pt_nt t m p)) + (6 * (pt_nm t m (pt_nt t m (pt_nt t m p))))))) (ov_shl 1 (pt_wt t m (pt_nt t m (pt_nt t m (pt_nt t m p))))))) 74 = h 74 from E66)
                have R111 : h99 75 = (ov_rs (h 75) ((pt_nm t m (pt_nt t m p)) + (6 * (pt_nm t m (pt_nt t m (pt_nt t m p))))) (ov_or (A (226 + ((pt_nm t m (pt_nt t m p)) + (6 * (pt_nm t m (pt_nt t m (pt_nt t m p))))))) (ov_shl 1 (pt_wt t m (pt_nt t m (pt_nt t m (pt_nt t m p))))))) := Eq.trans (y101 75 (by decide)) (Eq.trans (ov_up_row h57 75 ((pt_nm t m (pt_nt t m p)) + (6 * (pt_nm t m (pt_nt t m (pt_nt t m p))))) (ov_or (A (226 + ((pt_nm t m (pt_nt t m p)) + (6 * (pt_nm t m (pt_nt t m (pt_nt t m p))))))) (ov_shl 1 (pt_wt t m (pt_nt t m (pt_nt t m (pt_nt t m p))))))) (congrArg (fun f => ov_rs f ((pt_nm t m (pt_nt t m p)) + (6 * (pt_nm t m (pt_nt t m (pt_nt t m p))))) (ov_or (A (226 + ((pt_nm t m (pt_nt t m p)) + (6 * (pt_nm t m (pt_nt t m (pt_nt t m p))))))) (ov_shl 1 (pt_wt t m (pt_nt t m (pt_nt t m (pt_nt t m p))))))) E67))
                have E112 : h99 76 = h 76 := Eq.trans (y101 76 (by decide)) (show (ov_up h57 75 ((pt_nm t m (pt_nt t m p)) + (6 * (pt_nm t m (pt_nt t m (pt_nt t m p))))) (ov_or (A (226 + ((pt_nm t m (pt_nt t m p)) + (6 * (pt_nm t m (pt_nt t m (pt_nt t m p))))))) (ov_shl 1 (pt_wt t m (pt_nt t m (pt_nt t m (pt_nt t m p))))))) 76 = h 76 from E68)
                have E113 : h99 78 = h 78 := Eq.trans (y101 78 (by decide)) (show (ov_up h57 75 ((pt_nm t m (pt_nt t m p)) + (6 * (pt_nm t m (pt_nt t m (pt_nt t m p))))) (ov_or (A (226 + ((pt_nm t m (pt_nt t m p)) + (6 * (pt_nm t m (pt_nt t m (pt_nt t m p))))))) (ov_shl 1 (pt_wt t m (pt_nt t m (pt_nt t m (pt_nt t m p))))))) 78 = h 78 from E69)
                have fr114 : ∀ a : Int, a ≠ 1 ∧ a ≠ 3 ∧ a ≠ 75 → h99 a = h a := fun a ca => Eq.trans (y101 a (by omega)) (Eq.trans (by show (ov_up h57 75 ((pt_nm t m (pt_nt t m p)) + (6 * (pt_nm t m (pt_nt t m (pt_nt t m p))))) (ov_or (A (226 + ((pt_nm t m (pt_nt t m p)) + (6 * (pt_nm t m (pt_nt t m (pt_nt t m p))))))) (ov_shl 1 (pt_wt t m (pt_nt t m (pt_nt t m (pt_nt t m p))))))) a = h57 a; rw [ov_up_ne (by omega)]) (fr70 a ca))
                have e115 : h99 3 1 = 70 := Eq.trans (congrFun (show h99 3 = (ov_up h57 75 ((pt_nm t m (pt_nt t m p)) + (6 * (pt_nm t m (pt_nt t m (pt_nt t m p))))) (ov_or (A (226 + ((pt_nm t m (pt_nt t m p)) + (6 * (pt_nm t m (pt_nt t m (pt_nt t m p))))))) (ov_shl 1 (pt_wt t m (pt_nt t m (pt_nt t m (pt_nt t m p))))))) 3 from y101 3 (by decide)) 1) e71
                have y102_ : pt_TC t m (h99 1) (pt_nt t m (pt_nt t m (pt_nt t m (pt_nt t m p)))) := y102
                have g116 := pt_TC_b y102_
                have g117 := pt_nt_le (t := t) (n := m) (p := (pt_nt t m (pt_nt t m (pt_nt t m p)))) (by omega)
                show ov_R u d ov_m64 116 [(0, ov_r 3), (1, ov_i ((pt_nm t m (pt_nt t m p)) + (6 * (pt_nm t m (pt_nt t m (pt_nt t m p)))))), (2, ov_i (pt_wt t m (pt_nt t m (pt_nt t m (pt_nt t m p)))))] [] z98 h99 (P_fReader_readBar_3_k3_1_70 F z h t m p A)
                refine ov_blk (ls2 := [(0, ov_r 3), (1, ov_i ((pt_nm t m (pt_nt t m p)) + (6 * (pt_nm t m (pt_nt t m (pt_nt t m p)))))), (2, ov_i (pt_wt t m (pt_nt t m (pt_nt t m (pt_nt t m p)))))]) (st2 := [ov_i 59, ov_r 3]) (pc2 := 119) b_64_116_2 rfl rfl ?_
                refine ov_cV (as := [ov_i 59]) (st := []) (d2 := d - 1) d_64_119 lk_Reader_92 rfl (Nat.le_of_ble_eq_true rfl) (c := 6) (zb_3 I100) (zs_3 I100) ⟨by decide, rfl⟩ (by omega) (c_fReader_takeSign_3 t m (pt_nt t m (pt_nt t m (pt_nt t m (pt_nt t m p)))) (d - 1) (by omega) U I100 (ov_kws hw (by decide +kernel)) 59 (by omega) (show h99 2 = t from Eq.trans (show h99 2 = h 2 from E103) et) y102_) ?_
                rintro _ z119 h120 ⟨v118, rfl, I121, y122, y123⟩
                have E124 : h120 2 = h 2 := Eq.trans (y122 2 (by decide)) (show h99 2 = h 2 from E103)
                have E125 : h120 70 = h 70 := Eq.trans (y122 70 (by decide)) (show h99 70 = h 70 from E105)
                have E126 : h120 71 = h 71 := Eq.trans (y122 71 (by decide)) (show h99 71 = h 71 from E106)
                have E127 : h120 72 = h 72 := Eq.trans (y122 72 (by decide)) (show h99 72 = h 72 from E107)
                have E128 : h120 73 = h 73 := Eq.trans (y122 73 (by decide)) (show h99 73 = h 73 from E108)
                have E129 : h120 74 = h 74 := Eq.trans (y122 74 (by decide)) (show h99 74 = h 74 from E109)
                have E130 : h120 75 = h99 75 := Eq.trans (y122 75 (by decide)) (show h99 75 = h99 75 from rfl)
                have E131 : h120 76 = h 76 := Eq.trans (y122 76 (by decide)) (show h99 76 = h 76 from E112)
                have E132 : h120 78 = h 78 := Eq.trans (y122 78 (by decide)) (show h99 78 = h 78 from E113)
                have fr133 : ∀ a : Int, a ≠ 1 ∧ a ≠ 3 ∧ a ≠ 75 → h120 a = h a := fun a ca => Eq.trans (y122 a (by omega)) (fr114 a ca)
                have cf135 : h99 3 1 = h57 3 1 := congrFun E104 1
                have cf136 : h99 3 2 = h57 3 2 := congrFun E104 2
                rcases y123 with ⟨rfl, f137⟩ | ⟨rfl, f138, y139⟩
                · skip
                  show ov_R u d ov_m64 122 [(0, ov_r 3), (1, ov_i ((pt_nm t m (pt_nt t m p)) + (6 * (pt_nm t m (pt_nt t m (pt_nt t m p)))))), (2, ov_i (pt_wt t m (pt_nt t m (pt_nt t m (pt_nt t m p)))))] [ov_i 0] z119 h120 (P_fReader_readBar_3_k3_1_70 F z h t m p A)
                  have f140 : (h120 3 2) = (pt_fS t m (59 : Int) (pt_nt t m (pt_nt t m (pt_nt t m (pt_nt t m p))))) ∧ 1 ≤ (pt_fS t m (59 : Int) (pt_nt t m (pt_nt t m (pt_nt t m (pt_nt t m p))))) ∧ (h120 3 2) = 1 + 16 * (pt_nt t m (pt_nt t m (pt_nt t m (pt_nt t m p)))) ∧ pt_is t m (pt_nt t m (pt_nt t m (pt_nt t m (pt_nt t m p)))) (59 : Int) = 0 ∧ (h120 3 1) = (h99 3 1) := f137
                  clear f137
                  have e134 : h120 3 1 = 70 := by omega
                  have hF : (pt_brF t m A p) = 0 := by unfold pt_brF; (repeat' split) <;> omega
                  exact ov_retz (st := []) d_64_122 rfl (by omega) ⟨_, rfl, I121, (fun a ca => (fr133 a ca)), (Or.inr (Or.inl ⟨rfl, (by show (pt_brF t m A p) = 0 ∧ (pt_is t m (pt_nt t m (pt_nt t m (pt_nt t m (pt_nt t m p)))) 59) = 0 ∧ (h120 3 2) = 1 + 16 * (pt_nt t m (pt_nt t m (pt_nt t m (pt_nt t m p)))) ∧ 0 ≤ (pt_nt t m (pt_nt t m (pt_nt t m (pt_nt t m p)))) ∧ (h120 3 1) = (h 3 1); omega)⟩))⟩
                · skip
                  show ov_R u d ov_m64 122 [(0, ov_r 3), (1, ov_i ((pt_nm t m (pt_nt t m p)) + (6 * (pt_nm t m (pt_nt t m (pt_nt t m p)))))), (2, ov_i (pt_wt t m (pt_nt t m (pt_nt t m (pt_nt t m p)))))] [ov_i 1] z119 h120 (P_fReader_readBar_3_k3_1_70 F z h t m p A)
                  have f141 : (pt_fS t m (59 : Int) (pt_nt t m (pt_nt t m (pt_nt t m (pt_nt t m p))))) = 0 ∧ pt_is t m (pt_nt t m (pt_nt t m (pt_nt t m (pt_nt t m p)))) (59 : Int) = 1 ∧ (h120 3 1) = (h99 3 1) ∧ (h120 3 2) = (h99 3 2) := f138
                  clear f138
                  have e134 : h120 3 1 = 70 := by omega
                  have y139_ : pt_TC t m (h120 1) (pt_nt t m (pt_nt t m (pt_nt t m (pt_nt t m (pt_nt t m p))))) := y139
                  have g142 := pt_TC_b y139_
                  have g143 := pt_nt_le (t := t) (n := m) (p := (pt_nt t m (pt_nt t m (pt_nt t m (pt_nt t m p))))) (by omega)
                  have hF : (pt_brF t m A p) = 0 := by unfold pt_brF; (repeat' split) <;> omega
                  exact ov_retz (st := []) d_64_122 rfl (by omega) ⟨_, rfl, I121, (fun a ca => (fr133 a ca)), (Or.inr (Or.inr ⟨rfl, (by show (pt_brF t m A p) = 0 ∧ (pt_is t m (pt_nt t m (pt_nt t m (pt_nt t m (pt_nt t m p)))) 59) = 1 ∧ (h120 3 1) = (h 3 1) ∧ (h120 3 2) = (h 3 2); omega), y139_, (by rw [show h120 70 = (h 70) from E125, show h120 71 = (h 71) from E126, show h120 72 = (h 72) from E127, show h120 73 = (h 73) from E128, show h120 74 = (h 74) from E129, show h120 75 = (ov_rs (h 75) ((pt_nm t m (pt_nt t m p)) + (6 * (pt_nm t m (pt_nt t m (pt_nt t m p))))) (ov_or (A (226 + ((pt_nm t m (pt_nt t m p)) + (6 * (pt_nm t m (pt_nt t m (pt_nt t m p))))))) (ov_shl 1 (pt_wt t m (pt_nt t m (pt_nt t m (pt_nt t m p))))))) from (Eq.trans E130 R111), show h120 76 = (h 76) from E131, show h120 78 = (h 78) from E132]; exact pt_CR_bar cr (by omega))⟩))⟩
              · omega
            · skip
              show ov_R u d ov_m64 85 [(0, ov_r 3), (1, ov_i ((pt_nm t m (pt_nt t m p)) + (6 * (pt_nm t m (pt_nt t m (pt_nt t m p)))))), (2, ov_i (pt_wt t m (pt_nt t m (pt_nt t m (pt_nt t m p)))))] [ov_i 1] z56 h57 (P_fReader_readBar_3_k3_1_70 F z h t m p A)
              have f144 : (ov_and (ov_shr (A (226 + ((pt_nm t m (pt_nt t m p)) + (6 * (pt_nm t m (pt_nt t m (pt_nt t m p))))))) (pt_wt t m (pt_nt t m (pt_nt t m (pt_nt t m p))))) 1) ≠ 0 := f90
              clear f90
              refine ov_ifeq (tgt := 94) d_64_85 (by decide) (by omega) (fun c145 => ?_) (fun c145 => ?_)
              · omega
              · skip
                refine ov_blk (ls2 := [(0, ov_r 3), (1, ov_i ((pt_nm t m (pt_nt t m p)) + (6 * (pt_nm t m (pt_nt t m (pt_nt t m p)))))), (2, ov_i (pt_wt t m (pt_nt t m (pt_nt t m (pt_nt t m p)))))]) (st2 := [ov_i 3, ov_r 3]) (pc2 := 90) b_64_88_2 rfl rfl ?_
                refine ov_cV (as := [ov_i 3]) (st := []) (d2 := d - 1) d_64_90 lk_Reader_58 rfl (Nat.le_of_ble_eq_true rfl) (c := 6) (zb_3 I58) (zs_3 I58) ⟨by decide, rfl⟩ (by omega) (c_fReader_fail_3 t m (pt_nt t m (pt_nt t m (pt_nt t m p))) (d - 1) (by omega) U I58 (ov_kws hw (by decide +kernel)) 3 (by omega) (by show 1 ≤ (3 : Int) ∧ (3 : Int) ≤ 5; omega) (show h57 2 = t from Eq.trans (show h57 2 = h 2 from E61) et) y74_) ?_
                rintro _ z147 h148 ⟨v146, rfl, I149, y150, y151⟩
                have E152 : h148 1 = h57 1 := Eq.trans (y150 1 (by decide)) (show h57 1 = h57 1 from rfl)
                have E153 : h148 2 = h 2 := Eq.trans (y150 2 (by decide)) (show h57 2 = h 2 from E61)
                have E154 : h148 70 = h 70 := Eq.trans (y150 70 (by decide)) (show h57 70 = h 70 from E62)
                have E155 : h148 71 = h 71 := Eq.trans (y150 71 (by decide)) (show h57 71 = h 71 from E63)
                have E156 : h148 72 = h 72 := Eq.trans (y150 72 (by decide)) (show h57 72 = h 72 from E64)
                have E157 : h148 73 = h 73 := Eq.trans (y150 73 (by decide)) (show h57 73 = h 73 from E65)
                have E158 : h148 74 = h 74 := Eq.trans (y150 74 (by decide)) (show h57 74 = h 74 from E66)
                have E159 : h148 75 = h 75 := Eq.trans (y150 75 (by decide)) (show h57 75 = h 75 from E67)
                have E160 : h148 76 = h 76 := Eq.trans (y150 76 (by decide)) (show h57 76 = h 76 from E68)
                have E161 : h148 78 = h 78 := Eq.trans (y150 78 (by decide)) (show h57 78 = h 78 from E69)
                have fr162 : ∀ a : Int, a ≠ 1 ∧ a ≠ 3 ∧ a ≠ 75 → h148 a = h a := fun a ca => Eq.trans (y150 a (by omega)) (fr70 a ca)
                rcases y151 with ⟨rfl, f164⟩
                · skip
                  show ov_R u d ov_m64 93 [(0, ov_r 3), (1, ov_i ((pt_nm t m (pt_nt t m p)) + (6 * (pt_nm t m (pt_nt t m (pt_nt t m p)))))), (2, ov_i (pt_wt t m (pt_nt t m (pt_nt t m (pt_nt t m p)))))] [ov_i 0] z147 h148 (P_fReader_readBar_3_k3_1_70 F z h t m p A)
                  have f165 : (h148 3 2) = (3 : Int) + 16 * (pt_nt t m (pt_nt t m (pt_nt t m p))) ∧ (h148 3 1) = (h57 3 1) := f164
                  clear f164
                  have e163 : h148 3 1 = 70 := by omega
                  have hF : (pt_brF t m A p) = (h148 3 2) := by unfold pt_brF; (repeat' split) <;> omega
                  exact ov_retz (st := []) d_64_93 rfl (by omega) ⟨_, rfl, I149, (fun a ca => (fr162 a ca)), (Or.inl ⟨rfl, (by show (h148 3 2) = (pt_brF t m A p) ∧ 1 ≤ (pt_brF t m A p) ∧ (h148 3 1) = (h 3 1); omega)⟩)⟩
          · skip
            refine ov_blk (ls2 := [(0, ov_r 3), (1, ov_i ((pt_nm t m (pt_nt t m p)) + (6 * (pt_nm t m (pt_nt t m (pt_nt t m p)))))), (2, ov_i (pt_wt t m (pt_nt t m (pt_nt t m (pt_nt t m p)))))]) (st2 := [ov_i 1, ov_r 3]) (pc2 := 72) b_64_70_2 rfl rfl ?_
            refine ov_cV (as := [ov_i 1]) (st := []) (d2 := d - 1) d_64_72 lk_Reader_58 rfl (Nat.le_of_ble_eq_true rfl) (c := 6) (zb_3 I58) (zs_3 I58) ⟨by decide, rfl⟩ (by omega) (c_fReader_fail_3 t m (pt_nt t m (pt_nt t m (pt_nt t m p))) (d - 1) (by omega) U I58 (ov_kws hw (by decide +kernel)) 1 (by omega) (by show 1 ≤ (1 : Int) ∧ (1 : Int) ≤ 5; omega) (show h57 2 = t from Eq.trans (show h57 2 = h 2 from E61) et) y74_) ?_
            rintro _ z167 h168 ⟨v166, rfl, I169, y170, y171⟩
            have E172 : h168 1 = h57 1 := Eq.trans (y170 1 (by decide)) (show h57 1 = h57 1 from rfl)
            have E173 : h168 2 = h 2 := Eq.trans (y170 2 (by decide)) (show h57 2 = h 2 from E61)
            have E174 : h168 70 = h 70 := Eq.trans (y170 70 (by decide)) (show h57 70 = h 70 from E62)
            have E175 : h168 71 = h 71 := Eq.trans (y170 71 (by decide)) (show h57 71 = h 71 from E63)
            have E176 : h168 72 = h 72 := Eq.trans (y170 72 (by decide)) (show h57 72 = h 72 from E64)
            have E177 : h168 73 = h 73 := Eq.trans (y170 73 (by decide)) (show h57 73 = h 73 from E65)
            have E178 : h168 74 = h 74 := Eq.trans (y170 74 (by decide)) (show h57 74 = h 74 from E66)
            have E179 : h168 75 = h 75 := Eq.trans (y170 75 (by decide)) (show h57 75 = h 75 from E67)
            have E180 : h168 76 = h 76 := Eq.trans (y170 76 (by decide)) (show h57 76 = h 76 from E68)
            have E181 : h168 78 = h 78 := Eq.trans (y170 78 (by decide)) (show h57 78 = h 78 from E69)
            have fr182 : ∀ a : Int, a ≠ 1 ∧ a ≠ 3 ∧ a ≠ 75 → h168 a = h a := fun a ca => Eq.trans (y170 a (by omega)) (fr70 a ca)
            rcases y171 with ⟨rfl, f184⟩
            · skip
              show ov_R u d ov_m64 75 [(0, ov_r 3), (1, ov_i ((pt_nm t m (pt_nt t m p)) + (6 * (pt_nm t m (pt_nt t m (pt_nt t m p)))))), (2, ov_i (pt_wt t m (pt_nt t m (pt_nt t m (pt_nt t m p)))))] [ov_i 0] z167 h168 (P_fReader_readBar_3_k3_1_70 F z h t m p A)
              have f185 : (h168 3 2) = (1 : Int) + 16 * (pt_nt t m (pt_nt t m (pt_nt t m p))) ∧ (h168 3 1) = (h57 3 1) := f184
              clear f184
              have e183 : h168 3 1 = 70 := by omega
              have hF : (pt_brF t m A p) = (h168 3 2) := by unfold pt_brF; (repeat' split) <;> omega
              exact ov_retz (st := []) d_64_75 rfl (by omega) ⟨_, rfl, I169, (fun a ca => (fr182 a ca)), (Or.inl ⟨rfl, (by show (h168 3 2) = (pt_brF t m A p) ∧ 1 ≤ (pt_brF t m A p) ∧ (h168 3 1) = (h 3 1); omega)⟩)⟩
        · omega
    · omega

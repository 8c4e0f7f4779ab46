set_option maxHeartbeats 4000000 in
theorem c_fReader_readStep_3_82_k3_1_58 {u : ov_U} {F : ov_H} (t : Int → Int) (m : Int) (p : Int) (w : Int) (l : Int) (br : Int → Int) (c : Int) (x : Int) (y : Int) {z : ov_Z} {h : ov_H} (d : Nat) (hd : 6 ≤ d) (U : ov_cap u) (I : ov_I F z h) (hw : ov_kw 72535549176877750482370570 F) (k0 : h 3 1 = 58) (p0 : (h 82 0) = c ∧ 0 ≤ c ∧ c ≤ 13) (p1 : (h 82 1) = 6 * y + x ∧ 0 ≤ x ∧ x ≤ 5 ∧ 0 ≤ y ∧ y ≤ 8) (p2 : (h 58 0) = w ∧ (h 58 1) = l) (et : (h 2) = t) (tc : pt_TC t m (h 1) p) (ebr : (h 63) = br) : ov_T u d ov_m90 [ov_r 3, ov_r 82] z h (P_fReader_readStep_3_82_k3_1_58 F z h t m p w l br c x y) := by
  refine ov_en rfl (Nat.le_of_ble_eq_true rfl) ?_
  show ov_R u d ov_m90 0 [(0, ov_r 3), (1, ov_r 82)] [] z h (P_fReader_readStep_3_82_k3_1_58 F z h t m p w l br c x y)
  have wtb := @pt_wt_b t m p
  have eb : h 63 (h 82 1) = br (6 * y + x) := by rw [show h 82 1 = 6 * y + x by omega]; exact congrFun ebr _
  have rgx := rg_58_0 I
  have rgy := rg_58_1 I
  have tb := pt_TC_b tc
  refine ov_blk (ls2 := [(0, ov_r 3), (1, ov_r 82)]) (st2 := [ov_r 3]) (pc2 := 1) b_90_0_1 rfl rfl ?_
  refine ov_cV (as := []) (st := []) (d2 := d - 1) d_90_1 lk_Reader_54 rfl (Nat.le_of_ble_eq_true rfl) (c := 6) (zb_3 I) (zs_3 I) ⟨by decide, rfl⟩ (by omega) (c_fReader_wayTold_3 t m p (d - 1) (by omega) U I tc) ?_
  rintro _ _ _ ⟨v1, rfl, rfl, rfl, rfl⟩
  have g2 := @pt_wt_b t m p
  show ov_R u d ov_m90 4 [(0, ov_r 3), (1, ov_r 82)] [ov_i (pt_wt t m p)] z h (P_fReader_readStep_3_82_k3_1_58 F z h t m p w l br c x y)
  refine ov_blk (ls2 := [(0, ov_r 3), (1, ov_r 82), (2, ov_i (pt_wt t m p))]) (st2 := [ov_i (-1), ov_i (pt_wt t m p)]) (pc2 := 7) b_90_4_3 rfl rfl ?_
  refine ov_icne (tgt := 16) d_90_7 (by decide) (by omega) (by omega) (fun c3 => ?_) (fun c3 => ?_)
  · skip
    refine ov_blk (ls2 := [(0, ov_r 3), (1, ov_r 82), (2, ov_i (pt_wt t m p))]) (st2 := [ov_r 82]) (pc2 := 17) b_90_16_1 rfl rfl ?_
    refine ov_getf (v := ov_i (h 82 1)) d_90_17 fl_Reader_62 (zb_82 I) (zs_82 I) rfl ?_
    have g4 := rg_82_1 I
    refine ov_blk (ls2 := [(0, ov_r 3), (1, ov_r 82), (2, ov_i (pt_wt t m p)), (3, ov_i (h 82 1))]) (st2 := [ov_r 3]) (pc2 := 22) b_90_20_2 rfl rfl ?_
    refine ov_getf (v := ov_r 58) d_90_22 fl_Reader_15 (zb_3 I) (zs_3 I) (congrArg ov_r k0) ?_
    refine ov_blk (ls2 := [(0, ov_r 3), (1, ov_r 82), (2, ov_i (pt_wt t m p)), (3, ov_i (h 82 1))]) (st2 := [ov_i (pt_wt t m p), ov_i (h 82 1), ov_r 58]) (pc2 := 27) b_90_25_2 rfl rfl ?_
    refine ov_cV (as := [ov_i (h 82 1), ov_i (pt_wt t m p)]) (st := []) (d2 := d - 1) d_90_27 lk_Reader_65 rfl (Nat.le_of_ble_eq_true rfl) (c := 9) (zb_58 I) (zs_58 I) ⟨by decide, rfl⟩ (by omega) (c_Town_isBeyond_58_t (d - 1) (by omega) U I (h 82 1) (pt_wt t m p) (by omega) (by omega) (by show 0 ≤ (h 82 1) ∧ (h 82 1) ≤ 53; omega)) ?_
    rintro _ _ _ ⟨v5, rfl, rfl, rfl, f6⟩
    have f7 : ((pt_wt t m p) = 0 ∧ (v5 = 0 ∧ (h 82 1) % 6 < (h 58 0) - 1 ∨ v5 = 1 ∧ (h 58 0) - 1 ≤ (h 82 1) % 6) ∨ ¬ (pt_wt t m p) = 0 ∧ (v5 = 0 ∧ (h 82 1) / 6 < (h 58 1) - 1 ∨ v5 = 1 ∧ (h 58 1) - 1 ≤ (h 82 1) / 6)) := f6
    clear f6
    show ov_R u d ov_m90 30 [(0, ov_r 3), (1, ov_r 82), (2, ov_i (pt_wt t m p)), (3, ov_i (h 82 1))] [ov_i v5] z h (P_fReader_readStep_3_82_k3_1_58 F z h t m p w l br c x y)
    refine ov_ifne (tgt := 45) d_90_30 (by decide) (by omega) (fun c8 => ?_) (fun c8 => ?_)
    · skip
      refine ov_blk (ls2 := [(0, ov_r 3), (1, ov_r 82), (2, ov_i (pt_wt t m p)), (3, ov_i (h 82 1))]) (st2 := [ov_i 2, ov_r 3]) (pc2 := 47) b_90_45_2 rfl rfl ?_
      refine ov_cV (as := [ov_i 2]) (st := []) (d2 := d - 1) d_90_47 lk_Reader_58 rfl (Nat.le_of_ble_eq_true rfl) (c := 6) (zb_3 I) (zs_3 I) ⟨by decide, rfl⟩ (by omega) (c_fReader_fail_3 t m p (d - 1) (by omega) U I (ov_kws hw (by decide +kernel)) 2 (by omega) (by show 1 ≤ (2 : Int) ∧ (2 : Int) ≤ 5; omega) (show h 2 = t from Eq.trans (show h 2 = h 2 from rfl) et) tc) ?_
      rintro _ z10 h11 ⟨v9, rfl, I12, y13, y14⟩
      have E15 : h11 1 = h 1 := Eq.trans (y13 1 (by decide)) (show h 1 = h 1 from rfl)
      have E16 : h11 2 = h 2 := Eq.trans (y13 2 (by decide)) (show h 2 = h 2 from rfl)
      have E17 : h11 58 = h 58 := Eq.trans (y13 58 (by decide)) (show h 58 = h 58 from rfl)
      have E18 : h11 63 = h 63 := Eq.trans (y13 63 (by decide)) (show h 63 = h 63 from rfl)
      have E19 : h11 82 = h 82 := Eq.trans (y13 82 (by decide)) (show h 82 = h 82 from rfl)
      have E20 : h11 83 = h 83 := Eq.trans (y13 83 (by decide)) (show h 83 = h 83 from rfl)
      have E21 : h11 84 = h 84 := Eq.trans (y13 84 (by decide)) (show h 84 = h 84 from rfl)
      have E22 : h11 85 = h 85 := Eq.trans (y13 85 (by decide)) (show h 85 = h 85 from rfl)
      have fr23 : ∀ a : Int, a ≠ 1 ∧ a ≠ 3 ∧ (a < 82 ∨ 85 < a) → h11 a = h a := fun a ca => Eq.trans (y13 a (by omega)) rfl
      rcases y14 with ⟨rfl, f25⟩
      · skip
        show ov_R u d ov_m90 50 [(0, ov_r 3), (1, ov_r 82), (2, ov_i (pt_wt t m p)), (3, ov_i (h 82 1))] [ov_i 0] z10 h11 (P_fReader_readStep_3_82_k3_1_58 F z h t m p w l br c x y)
        have f26 : (h11 3 2) = (2 : Int) + 16 * p ∧ (h11 3 1) = (h 3 1) := f25
        clear f25
        have e24 : h11 3 1 = 58 := by omega
        have hF : (wk_F t m w l br c x y p) = (h11 3 2) := by have hgo := wk_go_i (w := w) (l := l) (br := br) (x := x) (y := y) (way := pt_wt t m p); unfold wk_F; (repeat' split) <;> omega
        have cf27 : h11 82 0 = h 82 0 := congrFun (E19) 0
        have cf28 : h11 82 1 = h 82 1 := congrFun (E19) 1
        exact ov_retz (st := []) d_90_50 rfl (by omega) ⟨_, rfl, I12, (fun a ca => (fr23 a ca)), (Or.inl ⟨rfl, (by show (h11 3 2) = (wk_F t m w l br c x y p) ∧ 1 ≤ (wk_F t m w l br c x y p) ∧ (h11 3 1) = (h 3 1); omega)⟩)⟩
    · skip
      refine ov_blk (ls2 := [(0, ov_r 3), (1, ov_r 82), (2, ov_i (pt_wt t m p)), (3, ov_i (h 82 1))]) (st2 := [ov_r 3]) (pc2 := 34) b_90_33_1 rfl rfl ?_
      refine ov_getf (v := ov_r 58) d_90_34 fl_Reader_15 (zb_3 I) (zs_3 I) (congrArg ov_r k0) ?_
      refine ov_blk (ls2 := [(0, ov_r 3), (1, ov_r 82), (2, ov_i (pt_wt t m p)), (3, ov_i (h 82 1))]) (st2 := [ov_i (pt_wt t m p), ov_i (h 82 1), ov_r 58]) (pc2 := 39) b_90_37_2 rfl rfl ?_
      refine ov_cV (as := [ov_i (h 82 1), ov_i (pt_wt t m p)]) (st := []) (d2 := d - 1) d_90_39 lk_Reader_69 rfl (Nat.le_of_ble_eq_true rfl) (c := 9) (zb_58 I) (zs_58 I) ⟨by decide, rfl⟩ (by omega) (c_Town_isBarred_58_t (d - 1) (by omega) U I (h 82 1) (pt_wt t m p) (by omega) (by omega) (by show 0 ≤ (h 82 1) ∧ (h 82 1) ≤ 53; omega)) ?_
      rintro _ _ _ ⟨v29, rfl, rfl, rfl, f30⟩
      have f31 : (v29 = 0 ∧ ov_and (ov_shr (h 63 ((h 82 1))) (pt_wt t m p)) 1 = 0 ∨ v29 = 1 ∧ ¬ ov_and (ov_shr (h 63 ((h 82 1))) (pt_wt t m p)) 1 = 0) := f30
      rw [eb] at f31
      clear f30
      show ov_R u d ov_m90 42 [(0, ov_r 3), (1, ov_r 82), (2, ov_i (pt_wt t m p)), (3, ov_i (h 82 1))] [ov_i v29] z h (P_fReader_readStep_3_82_k3_1_58 F z h t m p w l br c x y)
      refine ov_ifeq (tgt := 51) d_90_42 (by decide) (by omega) (fun c32 => ?_) (fun c32 => ?_)
      · skip
        refine ov_blk (ls2 := [(0, ov_r 3), (1, ov_r 82), (2, ov_i (pt_wt t m p)), (3, ov_i (h 82 1))]) (st2 := [ov_r 82]) (pc2 := 52) b_90_51_1 rfl rfl ?_
        refine ov_getf (v := ov_i (h 82 0)) d_90_52 fl_Reader_72 (zb_82 I) (zs_82 I) rfl ?_
        have g33 := rg_82_0 I
        refine ov_blk (ls2 := [(0, ov_r 3), (1, ov_r 82), (2, ov_i (pt_wt t m p)), (3, ov_i (h 82 1))]) (st2 := [ov_i 13, ov_i (h 82 0)]) (pc2 := 57) b_90_55_1 rfl rfl ?_
        refine ov_iclt (tgt := 66) d_90_57 (by decide) (by omega) (by omega) (fun c34 => ?_) (fun c34 => ?_)
        · skip
          refine ov_blk (ls2 := [(0, ov_r 3), (1, ov_r 82), (2, ov_i (pt_wt t m p)), (3, ov_i (h 82 1))]) (st2 := [ov_r 3]) (pc2 := 67) b_90_66_1 rfl rfl ?_
          refine ov_getf (v := ov_r 1) d_90_67 fl_Reader_9 (zb_3 I) (zs_3 I) (congrArg ov_r (rg_3_0 I)) ?_
          refine ov_cV (as := []) (st := []) (d2 := d - 1) d_90_70 lk_Reader_75 rfl (Nat.le_of_ble_eq_true rfl) (c := 8) (zb_1 I) (zs_1 I) ⟨by decide, rfl⟩ (by omega) (c_fTape_advance_1_t t m p (d - 1) (by omega) U I (ov_kws hw (by decide +kernel)) (show h 2 = t from Eq.trans (show h 2 = h 2 from rfl) et) tc) ?_
          rintro _ z35 h36 ⟨rfl, I37, y38, y39⟩
          have E40 : h36 2 = h 2 := Eq.trans (y38 2 (by decide)) (show h 2 = h 2 from rfl)
          have E41 : h36 3 = h 3 := Eq.trans (y38 3 (by decide)) (show h 3 = h 3 from rfl)
          have E42 : h36 58 = h 58 := Eq.trans (y38 58 (by decide)) (show h 58 = h 58 from rfl)
          have E43 : h36 63 = h 63 := Eq.trans (y38 63 (by decide)) (show h 63 = h 63 from rfl)
          have E44 : h36 82 = h 82 := Eq.trans (y38 82 (by decide)) (show h 82 = h 82 from rfl)
          have E45 : h36 83 = h 83 := Eq.trans (y38 83 (by decide)) (show h 83 = h 83 from rfl)
          have E46 : h36 84 = h 84 := Eq.trans (y38 84 (by decide)) (show h 84 = h 84 from rfl)
          have E47 : h36 85 = h 85 := Eq.trans (y38 85 (by decide)) (show h 85 = h 85 from rfl)
          have fr48 : ∀ a : Int, a ≠ 1 ∧ a ≠ 3 ∧ (a < 82 ∨ 85 < a) → h36 a = h a := fun a ca => Eq.trans (y38 a (by omega)) rfl
          have e49 : h36 3 1 = 58 := Eq.trans (congrFun (show h36 3 = h 3 from y38 3 (by decide)) 1) k0
          have y39_ : pt_TC t m (h36 1) (pt_nt t m p) := y39
          have g50 := pt_TC_b y39_
          have g51 := pt_nt_le (t := t) (n := m) (p := p) (by omega)
          show ov_R u d ov_m90 73 [(0, ov_r 3), (1, ov_r 82), (2, ov_i (pt_wt t m p)), (3, ov_i (h 82 1))] [] z35 h36 (P_fReader_readStep_3_82_k3_1_58 F z h t m p w l br c x y)
          refine ov_blk (ls2 := [(0, ov_r 3), (1, ov_r 82), (2, ov_i (pt_wt t m p)), (3, ov_i (h 82 1))]) (st2 := [ov_i 9999, ov_i 0, ov_r 3]) (pc2 := 78) b_90_73_3 rfl rfl ?_
          refine ov_cV (as := [ov_i 0, ov_i 9999]) (st := []) (d2 := d - 1) d_90_78 lk_Reader_78 rfl (Nat.le_of_ble_eq_true rfl) (c := 6) (zb_3 I37) (zs_3 I37) ⟨by decide, rfl⟩ (by omega) (c_fReader_takeNumber_3 t m (pt_nt t m p) (d - 1) (by omega) U I37 (ov_kws hw (by decide +kernel)) 0 9999 (by omega) (by omega) (show h36 2 = t from Eq.trans (show h36 2 = h 2 from E40) et) y39_) ?_
          rintro _ z53 h54 ⟨v52, rfl, I55, y56, y57⟩
          have E58 : h54 2 = h 2 := Eq.trans (y56 2 (by decide)) (show h36 2 = h 2 from E40)
          have E59 : h54 58 = h 58 := Eq.trans (y56 58 (by decide)) (show h36 58 = h 58 from E42)
          have E60 : h54 63 = h 63 := Eq.trans (y56 63 (by decide)) (show h36 63 = h 63 from E43)
          have E61 : h54 82 = h 82 := Eq.trans (y56 82 (by decide)) (show h36 82 = h 82 from E44)
          have E62 : h54 83 = h 83 := Eq.trans (y56 83 (by decide)) (show h36 83 = h 83 from E45)
          have E63 : h54 84 = h 84 := Eq.trans (y56 84 (by decide)) (show h36 84 = h 84 from E46)
          have E64 : h54 85 = h 85 := Eq.trans (y56 85 (by decide)) (show h36 85 = h 85 from E47)
          have fr65 : ∀ a : Int, a ≠ 1 ∧ a ≠ 3 ∧ (a < 82 ∨ 85 < a) → h54 a = h a := fun a ca => Eq.trans (y56 a (by omega)) (fr48 a ca)
          have cf67 : h36 3 1 = h 3 1 := congrFun E41 1
          have cf68 : h36 3 2 = h 3 2 := congrFun E41 2
          rcases y57 with ⟨rfl, f69⟩ | ⟨rfl, f70, y71⟩
          · skip
            show ov_R u d ov_m90 81 [(0, ov_r 3), (1, ov_r 82), (2, ov_i (pt_wt t m p)), (3, ov_i (h 82 1))] [ov_i 0] z53 h54 (P_fReader_readStep_3_82_k3_1_58 F z h t m p w l br c x y)
            have f72 : (h54 3 2) = (pt_fN t m (0 : Int) (9999 : Int) (pt_nt t m p)) ∧ 1 ≤ (pt_fN t m (0 : Int) (9999 : Int) (pt_nt t m p)) ∧ (h54 3 1) = (h36 3 1) := f69
            clear f69
            have e66 : h54 3 1 = 58 := by omega
            refine ov_ifne (tgt := 86) d_90_81 (by decide) (by omega) (fun c73 => ?_) (fun c73 => ?_)
            · omega
            · skip
              refine ov_blk (ls2 := [(0, ov_r 3), (1, ov_r 82), (2, ov_i (pt_wt t m p)), (3, ov_i (h 82 1))]) (st2 := [ov_i 0]) (pc2 := 85) b_90_84_1 rfl rfl ?_
              have hF : (wk_F t m w l br c x y p) = (h54 3 2) := by have hgo := wk_go_i (w := w) (l := l) (br := br) (x := x) (y := y) (way := pt_wt t m p); unfold wk_F; (repeat' split) <;> omega
              have cf74 : h54 82 0 = h 82 0 := congrFun (E61) 0
              have cf75 : h54 82 1 = h 82 1 := congrFun (E61) 1
              exact ov_retz (st := []) d_90_85 rfl (by omega) ⟨_, rfl, I55, (fun a ca => (fr65 a ca)), (Or.inl ⟨rfl, (by show (h54 3 2) = (wk_F t m w l br c x y p) ∧ 1 ≤ (wk_F t m w l br c x y p) ∧ (h54 3 1) = (h 3 1); omega)⟩)⟩
          · skip
            show ov_R u d ov_m90 81 [(0, ov_r 3), (1, ov_r 82), (2, ov_i (pt_wt t m p)), (3, ov_i (h 82 1))] [ov_i 1] z53 h54 (P_fReader_readStep_3_82_k3_1_58 F z h t m p w l br c x y)
            have f76 : (pt_fN t m (0 : Int) (9999 : Int) (pt_nt t m p)) = 0 ∧ (0 : Int) ≤ (pt_nm t m (pt_nt t m p)) ∧ (pt_nm t m (pt_nt t m p)) ≤ (9999 : Int) ∧ (h54 3 3) = (pt_nm t m (pt_nt t m p)) ∧ 0 ≤ (pt_nm t m (pt_nt t m p)) ∧ (pt_nm t m (pt_nt t m p)) ≤ 9999 ∧ (h54 3 1) = (h36 3 1) ∧ (h54 3 2) = (h36 3 2) := f70
            clear f70
            have e66 : h54 3 1 = 58 := by omega
            have y71_ : pt_TC t m (h54 1) (pt_nt t m (pt_nt t m p)) := y71
            have g77 := pt_TC_b y71_
            have g78 := pt_nt_le (t := t) (n := m) (p := (pt_nt t m p)) (by omega)
            have e79 : h54 3 3 = (pt_nm t m (pt_nt t m p)) := by omega
            refine ov_ifne (tgt := 86) d_90_81 (by decide) (by omega) (fun c80 => ?_) (fun c80 => ?_)
            · skip
              refine ov_blk (ls2 := [(0, ov_r 3), (1, ov_r 82), (2, ov_i (pt_wt t m p)), (3, ov_i (h 82 1))]) (st2 := [ov_r 3, ov_i (pt_wt t m p), ov_i (h 82 1), ov_r 82]) (pc2 := 90) b_90_86_4 rfl rfl ?_
              have e81 : h54 3 3 = (pt_nm t m (pt_nt t m p)) := e79
              refine ov_getf (v := ov_i (pt_nm t m (pt_nt t m p))) d_90_90 fl_Reader_81 (zb_3 I55) (zs_3 I55) (congrArg ov_i e81) ?_
              have g82 := rg_3_3 I55
              rw [e81] at g82
              refine ov_blk (ls2 := [(0, ov_r 3), (1, ov_r 82), (2, ov_i (pt_wt t m p)), (3, ov_i (h 82 1))]) (st2 := [ov_r 3, ov_i (pt_nm t m (pt_nt t m p)), ov_i (pt_wt t m p), ov_i (h 82 1), ov_r 82]) (pc2 := 94) b_90_93_1 rfl rfl ?_
              refine ov_getf (v := ov_r 58) d_90_94 fl_Reader_15 (zb_3 I55) (zs_3 I55) (congrArg ov_r e66) ?_
              refine ov_blk (ls2 := [(0, ov_r 3), (1, ov_r 82), (2, ov_i (pt_wt t m p)), (3, ov_i (h 82 1))]) (st2 := [ov_i (pt_wt t m p), ov_i (h 82 1), ov_r 58, ov_i (pt_nm t m (pt_nt t m p)), ov_i (pt_wt t m p), ov_i (h 82 1), ov_r 82]) (pc2 := 99) b_90_97_2 rfl rfl ?_
              refine ov_cV (as := [ov_i (h 82 1), ov_i (pt_wt t m p)]) (st := [ov_i (pt_nm t m (pt_nt t m p)), ov_i (pt_wt t m p), ov_i (h 82 1), ov_r 82]) (d2 := d - 1) d_90_99 lk_Reader_84 rfl (Nat.le_of_ble_eq_true rfl) (c := 9) (zb_58 I55) (zs_58 I55) ⟨by decide, rfl⟩ (by omega) (c_Town_after_58 (d - 1) (by omega) U I55 (h 82 1) (pt_wt t m p) (by omega) (by omega) (by show 0 ≤ (h 82 1) ∧ (h 82 1) ≤ 53; omega)) ?_
              rintro _ _ _ ⟨v83, rfl, rfl, rfl, f84⟩
              have f85 : ((pt_wt t m p) = 0 → v83 = (h 82 1) + 1) ∧ (¬ (pt_wt t m p) = 0 → v83 = (h 82 1) + 6) := f84
              clear f84
              show ov_R u d ov_m90 102 [(0, ov_r 3), (1, ov_r 82), (2, ov_i (pt_wt t m p)), (3, ov_i (h 82 1))] [ov_i v83, ov_i (pt_nm t m (pt_nt t m p)), ov_i (pt_wt t m p), ov_i (h 82 1), ov_r 82] z53 h54 (P_fReader_readStep_3_82_k3_1_58 F z h t m p w l br c x y)
              have cf86 : h54 82 (0) = h 82 (0) := congrFun E61 (0)
              refine ov_cV (as := [ov_i (h 82 1), ov_i (pt_wt t m p), ov_i (pt_nm t m (pt_nt t m p)), ov_i v83]) (st := []) (d2 := d - 1) d_90_102 lk_Reader_88 rfl (Nat.le_of_ble_eq_true rfl) (c := 10) (zb_82 I55) (zs_82 I55) ⟨by decide, rfl⟩ (by omega) (c_fWalk_add_82 (d - 1) (by omega) U I55 (ov_kws hw (by decide +kernel)) (h 82 1) (pt_wt t m p) (pt_nm t m (pt_nt t m p)) v83 (by omega) (by omega) (by omega) (by omega) (by show 0 ≤ (h 82 1) ∧ (h 82 1) ≤ 53; omega) (by show (pt_wt t m p) = 0 ∨ (pt_wt t m p) = 1; omega) (by show 0 ≤ v83 ∧ v83 ≤ 53; omega) (by show (h54 82 0) < 13; omega)) ?_
              rintro _ z87 h88 ⟨rfl, I89, y90, f91, y92, y93, y94⟩
              have E95 : h88 1 = h54 1 := Eq.trans (y90 1 (by decide)) (show h54 1 = h54 1 from rfl)
              have E96 : h88 2 = h 2 := Eq.trans (y90 2 (by decide)) (show h54 2 = h 2 from E58)
              have E97 : h88 3 = h54 3 := Eq.trans (y90 3 (by decide)) (show h54 3 = h54 3 from rfl)
              have E98 : h88 58 = h 58 := Eq.trans (y90 58 (by decide)) (show h54 58 = h 58 from E59)
              have E99 : h88 63 = h 63 := Eq.trans (y90 63 (by decide)) (show h54 63 = h 63 from E60)
              have fr100 : ∀ a : Int, a ≠ 1 ∧ a ≠ 3 ∧ (a < 82 ∨ 85 < a) → h88 a = h a := fun a ca => Eq.trans (y90 a (by omega)) (fr65 a ca)
              have e101 : h88 3 1 = 58 := Eq.trans (congrFun (show h88 3 = h54 3 from y90 3 (by decide)) 1) e66
              have f102 : (h88 82 0) = (h54 82 0) + 1 ∧ (h88 82 1) = v83 := f91
              clear f91
              have y92_ : (h88 83) = ov_rs (h54 83) (h54 82 0) (h 82 1) := y92
              have y93_ : (h88 84) = ov_rs (h54 84) (h54 82 0) (pt_wt t m p) := y93
              have y94_ : (h88 85) = ov_rs (h54 85) (h54 82 0) (pt_nm t m (pt_nt t m p)) := y94
              show ov_R u d ov_m90 105 [(0, ov_r 3), (1, ov_r 82), (2, ov_i (pt_wt t m p)), (3, ov_i (h 82 1))] [] z87 h88 (P_fReader_readStep_3_82_k3_1_58 F z h t m p w l br c x y)
              refine ov_blk (ls2 := [(0, ov_r 3), (1, ov_r 82), (2, ov_i (pt_wt t m p)), (3, ov_i (h 82 1))]) (st2 := [ov_i 59, ov_r 3]) (pc2 := 108) b_90_105_2 rfl rfl ?_
              refine ov_cV (as := [ov_i 59]) (st := []) (d2 := d - 1) d_90_108 lk_Reader_92 rfl (Nat.le_of_ble_eq_true rfl) (c := 6) (zb_3 I89) (zs_3 I89) ⟨by decide, rfl⟩ (by omega) (c_fReader_takeSign_3 t m (pt_nt t m (pt_nt t m p)) (d - 1) (by omega) U I89 (ov_kws hw (by decide +kernel)) 59 (by omega) (show h88 2 = t from Eq.trans (show h88 2 = h 2 from E96) et) (by rw [show h88 1 = h54 1 from E95]; exact y71_)) ?_
              rintro _ z104 h105 ⟨v103, rfl, I106, y107, y108⟩
              have E109 : h105 2 = h 2 := Eq.trans (y107 2 (by decide)) (show h88 2 = h 2 from E96)
              have E110 : h105 58 = h 58 := Eq.trans (y107 58 (by decide)) (show h88 58 = h 58 from E98)
              have E111 : h105 63 = h 63 := Eq.trans (y107 63 (by decide)) (show h88 63 = h 63 from E99)
              have E112 : h105 82 = h88 82 := Eq.trans (y107 82 (by decide)) (show h88 82 = h88 82 from rfl)
              have E113 : h105 83 = h88 83 := Eq.trans (y107 83 (by decide)) (show h88 83 = h88 83 from rfl)
              have E114 : h105 84 = h88 84 := Eq.trans (y107 84 (by decide)) (show h88 84 = h88 84 from rfl)
              have E115 : h105 85 = h88 85 := Eq.trans (y107 85 (by decide)) (show h88 85 = h88 85 from rfl)
              have fr116 : ∀ a : Int, a ≠ 1 ∧ a ≠ 3 ∧ (a < 82 ∨ 85 < a) → h105 a = h a := fun a ca => Eq.trans (y107 a (by omega)) (fr100 a ca)
              have cf118 : h88 3 1 = h54 3 1 := congrFun E97 1
              have cf119 : h88 3 2 = h54 3 2 := congrFun E97 2
              rcases y108 with ⟨rfl, f120⟩ | ⟨rfl, f121, y122⟩
              · skip
                show ov_R u d ov_m90 111 [(0, ov_r 3), (1, ov_r 82), (2, ov_i (pt_wt t m p)), (3, ov_i (h 82 1))] [ov_i 0] z104 h105 (P_fReader_readStep_3_82_k3_1_58 F z h t m p w l br c x y)
                have f123 : (h105 3 2) = (pt_fS t m (59 : Int) (pt_nt t m (pt_nt t m p))) ∧ 1 ≤ (pt_fS t m (59 : Int) (pt_nt t m (pt_nt t m p))) ∧ (h105 3 2) = 1 + 16 * (pt_nt t m (pt_nt t m p)) ∧ pt_is t m (pt_nt t m (pt_nt t m p)) (59 : Int) = 0 ∧ (h105 3 1) = (h88 3 1) := f120
                clear f120
                have e117 : h105 3 1 = 58 := by omega
                have q124 : h105 82 0 = h88 82 0 := congrFun (show h105 82 = h88 82 from E112) 0
                have q125 : h105 82 1 = h88 82 1 := congrFun (show h105 82 = h88 82 from E112) 1
                have hF : (wk_F t m w l br c x y p) = 0 := by have hgo := wk_go_i (w := w) (l := l) (br := br) (x := x) (y := y) (way := pt_wt t m p); unfold wk_F; (repeat' split) <;> omega
                have hG := wk_F_go hF (by omega)
                have hI := wk_go_in (w := w) (l := l) (br := br) (x := x) (y := y) (way := (pt_wt t m p)) (by omega) (by omega) (by omega) (by omega) (by omega) hG.2.1
                have cf126 : h105 82 0 = h88 82 0 := congrFun (E112) 0
                have cf127 : h105 82 1 = h88 82 1 := congrFun (E112) 1
                exact ov_retz (st := []) d_90_111 rfl (by omega) ⟨_, rfl, I106, (fun a ca => (fr116 a ca)), (Or.inr (Or.inl ⟨rfl, (by show (wk_F t m w l br c x y p) = 0 ∧ (pt_is t m (pt_nt t m (pt_nt t m p)) 59) = 0 ∧ (h105 3 2) = 1 + 16 * (pt_nt t m (pt_nt t m p)) ∧ 0 ≤ (pt_nt t m (pt_nt t m p)) ∧ (h105 3 1) = (h 3 1); omega)⟩))⟩
              · skip
                show ov_R u d ov_m90 111 [(0, ov_r 3), (1, ov_r 82), (2, ov_i (pt_wt t m p)), (3, ov_i (h 82 1))] [ov_i 1] z104 h105 (P_fReader_readStep_3_82_k3_1_58 F z h t m p w l br c x y)
                have f128 : (pt_fS t m (59 : Int) (pt_nt t m (pt_nt t m p))) = 0 ∧ pt_is t m (pt_nt t m (pt_nt t m p)) (59 : Int) = 1 ∧ (h105 3 1) = (h88 3 1) ∧ (h105 3 2) = (h88 3 2) := f121
                clear f121
                have e117 : h105 3 1 = 58 := by omega
                have y122_ : pt_TC t m (h105 1) (pt_nt t m (pt_nt t m (pt_nt t m p))) := y122
                have g129 := pt_TC_b y122_
                have g130 := pt_nt_le (t := t) (n := m) (p := (pt_nt t m (pt_nt t m p))) (by omega)
                have q131 : h105 82 0 = h88 82 0 := congrFun (show h105 82 = h88 82 from E112) 0
                have q132 : h105 82 1 = h88 82 1 := congrFun (show h105 82 = h88 82 from E112) 1
                have hF : (wk_F t m w l br c x y p) = 0 := by have hgo := wk_go_i (w := w) (l := l) (br := br) (x := x) (y := y) (way := pt_wt t m p); unfold wk_F; (repeat' split) <;> omega
                have hG := wk_F_go hF (by omega)
                have hI := wk_go_in (w := w) (l := l) (br := br) (x := x) (y := y) (way := (pt_wt t m p)) (by omega) (by omega) (by omega) (by omega) (by omega) hG.2.1
                have cf133 : h105 82 0 = h88 82 0 := congrFun (E112) 0
                have cf134 : h105 82 1 = h88 82 1 := congrFun (E112) 1
                exact ov_retz (st := []) d_90_111 rfl (by omega) ⟨_, rfl, I106, (fun a ca => (fr116 a ca)), (Or.inr (Or.inr ⟨rfl, (by show (wk_F t m w l br c x y p) = 0 ∧ (pt_is t m (pt_nt t m (pt_nt t m p)) 59) = 1 ∧ 0 ≤ (pt_wt t m p) ∧ (pt_wt t m p) ≤ 1 ∧ c < 13 ∧ 0 ≤ (pt_nm t m (pt_nt t m p)) ∧ (pt_nm t m (pt_nt t m p)) ≤ 9999 ∧ 0 ≤ x + (1 - (pt_wt t m p)) ∧ x + (1 - (pt_wt t m p)) ≤ 5 ∧ 0 ≤ y + (pt_wt t m p) ∧ y + (pt_wt t m p) ≤ 8 ∧ (h105 82 0) = c + 1 ∧ (h105 82 1) = 6 * (y + (pt_wt t m p)) + (x + (1 - (pt_wt t m p))) ∧ (h105 3 1) = (h 3 1) ∧ (h105 3 2) = (h 3 2); omega), y122_, ((show h105 83 = h88 83 from E113).trans (y92_.trans (by rw [show h54 83 = h 83 from E62, show (h 82 0) = c by omega, show (h 82 1) = 6 * y + x by omega]))), ((show h105 84 = h88 84 from E114).trans (y93_.trans (by rw [show h54 84 = h 84 from E63, show (h 82 0) = c by omega]))), ((show h105 85 = h88 85 from E115).trans (y94_.trans (by rw [show h54 85 = h 85 from E64, show (h 82 0) = c by omega])))⟩))⟩
            · omega
        · skip
          refine ov_blk (ls2 := [(0, ov_r 3), (1, ov_r 82), (2, ov_i (pt_wt t m p)), (3, ov_i (h 82 1))]) (st2 := [ov_i 5, ov_r 3]) (pc2 := 62) b_90_60_2 rfl rfl ?_
          refine ov_cV (as := [ov_i 5]) (st := []) (d2 := d - 1) d_90_62 lk_Reader_58 rfl (Nat.le_of_ble_eq_true rfl) (c := 6) (zb_3 I) (zs_3 I) ⟨by decide, rfl⟩ (by omega) (c_fReader_fail_3 t m p (d - 1) (by omega) U I (ov_kws hw (by decide +kernel)) 5 (by omega) (by show 1 ≤ (5 : Int) ∧ (5 : Int) ≤ 5; omega) (show h 2 = t from Eq.trans (show h 2 = h 2 from rfl) et) tc) ?_
          rintro _ z136 h137 ⟨v135, rfl, I138, y139, y140⟩
          have E141 : h137 1 = h 1 := Eq.trans (y139 1 (by decide)) (show h 1 = h 1 from rfl)
          have E142 : h137 2 = h 2 := Eq.trans (y139 2 (by decide)) (show h 2 = h 2 from rfl)
          have E143 : h137 58 = h 58 := Eq.trans (y139 58 (by decide)) (show h 58 = h 58 from rfl)
          have E144 : h137 63 = h 63 := Eq.trans (y139 63 (by decide)) (show h 63 = h 63 from rfl)
          have E145 : h137 82 = h 82 := Eq.trans (y139 82 (by decide)) (show h 82 = h 82 from rfl)
          have E146 : h137 83 = h 83 := Eq.trans (y139 83 (by decide)) (show h 83 = h 83 from rfl)
          have E147 : h137 84 = h 84 := Eq.trans (y139 84 (by decide)) (show h 84 = h 84 from rfl)
          have E148 : h137 85 = h 85 := Eq.trans (y139 85 (by decide)) (show h 85 = h 85 from rfl)
          have fr149 : ∀ a : Int, a ≠ 1 ∧ a ≠ 3 ∧ (a < 82 ∨ 85 < a) → h137 a = h a := fun a ca => Eq.trans (y139 a (by omega)) rfl
          rcases y140 with ⟨rfl, f151⟩
          · skip
            show ov_R u d ov_m90 65 [(0, ov_r 3), (1, ov_r 82), (2, ov_i (pt_wt t m p)), (3, ov_i (h 82 1))] [ov_i 0] z136 h137 (P_fReader_readStep_3_82_k3_1_58 F z h t m p w l br c x y)
            have f152 : (h137 3 2) = (5 : Int) + 16 * p ∧ (h137 3 1) = (h 3 1) := f151
            clear f151
            have e150 : h137 3 1 = 58 := by omega
            have hF : (wk_F t m w l br c x y p) = (h137 3 2) := by have hgo := wk_go_i (w := w) (l := l) (br := br) (x := x) (y := y) (way := pt_wt t m p); unfold wk_F; (repeat' split) <;> omega
            have cf153 : h137 82 0 = h 82 0 := congrFun (E145) 0
            have cf154 : h137 82 1 = h 82 1 := congrFun (E145) 1
            exact ov_retz (st := []) d_90_65 rfl (by omega) ⟨_, rfl, I138, (fun a ca => (fr149 a ca)), (Or.inl ⟨rfl, (by show (h137 3 2) = (wk_F t m w l br c x y p) ∧ 1 ≤ (wk_F t m w l br c x y p) ∧ (h137 3 1) = (h 3 1); omega)⟩)⟩
      · skip
        refine ov_blk (ls2 := [(0, ov_r 3), (1, ov_r 82), (2, ov_i (pt_wt t m p)), (3, ov_i (h 82 1))]) (st2 := [ov_i 2, ov_r 3]) (pc2 := 47) b_90_45_2 rfl rfl ?_
        refine ov_cV (as := [ov_i 2]) (st := []) (d2 := d - 1) d_90_47 lk_Reader_58 rfl (Nat.le_of_ble_eq_true rfl) (c := 6) (zb_3 I) (zs_3 I) ⟨by decide, rfl⟩ (by omega) (c_fReader_fail_3 t m p (d - 1) (by omega) U I (ov_kws hw (by decide +kernel)) 2 (by omega) (by show 1 ≤ (2 : Int) ∧ (2 : Int) ≤ 5; omega) (show h 2 = t from Eq.trans (show h 2 = h 2 from rfl) et) tc) ?_
        rintro _ z156 h157 ⟨v155, rfl, I158, y159, y160⟩
        have E161 : h157 1 = h 1 := Eq.trans (y159 1 (by decide)) (show h 1 = h 1 from rfl)
        have E162 : h157 2 = h 2 := Eq.trans (y159 2 (by decide)) (show h 2 = h 2 from rfl)
        have E163 : h157 58 = h 58 := Eq.trans (y159 58 (by decide)) (show h 58 = h 58 from rfl)
        have E164 : h157 63 = h 63 := Eq.trans (y159 63 (by decide)) (show h 63 = h 63 from rfl)
        have E165 : h157 82 = h 82 := Eq.trans (y159 82 (by decide)) (show h 82 = h 82 from rfl)
        have E166 : h157 83 = h 83 := Eq.trans (y159 83 (by decide)) (show h 83 = h 83 from rfl)
        have E167 : h157 84 = h 84 := Eq.trans (y159 84 (by decide)) (show h 84 = h 84 from rfl)
        have E168 : h157 85 = h 85 := Eq.trans (y159 85 (by decide)) (show h 85 = h 85 from rfl)
        have fr169 : ∀ a : Int, a ≠ 1 ∧ a ≠ 3 ∧ (a < 82 ∨ 85 < a) → h157 a = h a := fun a ca => Eq.trans (y159 a (by omega)) rfl
        rcases y160 with ⟨rfl, f171⟩
        · skip
          show ov_R u d ov_m90 50 [(0, ov_r 3), (1, ov_r 82), (2, ov_i (pt_wt t m p)), (3, ov_i (h 82 1))] [ov_i 0] z156 h157 (P_fReader_readStep_3_82_k3_1_58 F z h t m p w l br c x y)
          have f172 : (h157 3 2) = (2 : Int) + 16 * p ∧ (h157 3 1) = (h 3 1) := f171
          clear f171
          have e170 : h157 3 1 = 58 := by omega
          have hF : (wk_F t m w l br c x y p) = (h157 3 2) := by have hgo := wk_go_i (w := w) (l := l) (br := br) (x := x) (y := y) (way := pt_wt t m p); unfold wk_F; (repeat' split) <;> omega
          have cf173 : h157 82 0 = h 82 0 := congrFun (E165) 0
          have cf174 : h157 82 1 = h 82 1 := congrFun (E165) 1
          exact ov_retz (st := []) d_90_50 rfl (by omega) ⟨_, rfl, I158, (fun a ca => (fr169 a ca)), (Or.inl ⟨rfl, (by show (h157 3 2) = (wk_F t m w l br c x y p) ∧ 1 ≤ (wk_F t m w l br c x y p) ∧ (h157 3 1) = (h 3 1); omega)⟩)⟩
  · skip
    refine ov_blk (ls2 := [(0, ov_r 3), (1, ov_r 82), (2, ov_i (pt_wt t m p))]) (st2 := [ov_i 1, ov_r 3]) (pc2 := 12) b_90_10_2 rfl rfl ?_
    refine ov_cV (as := [ov_i 1]) (st := []) (d2 := d - 1) d_90_12 lk_Reader_58 rfl (Nat.le_of_ble_eq_true rfl) (c := 6) (zb_3 I) (zs_3 I) ⟨by decide, rfl⟩ (by omega) (c_fReader_fail_3 t m p (d - 1) (by omega) U I (ov_kws hw (by decide +kernel)) 1 (by omega) (by show 1 ≤ (1 : Int) ∧ (1 : Int) ≤ 5; omega) (show h 2 = t from Eq.trans (show h 2 = h 2 from rfl) et) tc) ?_
    rintro _ z176 h177 ⟨v175, rfl, I178, y179, y180⟩
    have E181 : h177 1 = h 1 := Eq.trans (y179 1 (by decide)) (show h 1 = h 1 from rfl)
    have E182 : h177 2 = h 2 := Eq.trans (y179 2 (by decide)) (show h 2 = h 2 from rfl)
    have E183 : h177 58 = h 58 := Eq.trans (y179 58 (by decide)) (show h 58 = h 58 from rfl)
    have E184 : h177 63 = h 63 := Eq.trans (y179 63 (by decide)) (show h 63 = h 63 from rfl)
    have E185 : h177 82 = h 82 := Eq.trans (y179 82 (by decide)) (show h 82 = h 82 from rfl)
    have E186 : h177 83 = h 83 := Eq.trans (y179 83 (by decide)) (show h 83 = h 83 from rfl)
    have E187 : h177 84 = h 84 := Eq.trans (y179 84 (by decide)) (show h 84 = h 84 from rfl)
    have E188 : h177 85 = h 85 := Eq.trans (y179 85 (by decide)) (show h 85 = h 85 from rfl)
    have fr189 : ∀ a : Int, a ≠ 1 ∧ a ≠ 3 ∧ (a < 82 ∨ 85 < a) → h177 a = h a := fun a ca => Eq.trans (y179 a (by omega)) rfl
    rcases y180 with ⟨rfl, f191⟩
    · skip
      show ov_R u d ov_m90 15 [(0, ov_r 3), (1, ov_r 82), (2, ov_i (pt_wt t m p))] [ov_i 0] z176 h177 (P_fReader_readStep_3_82_k3_1_58 F z h t m p w l br c x y)
      have f192 : (h177 3 2) = (1 : Int) + 16 * p ∧ (h177 3 1) = (h 3 1) := f191
      clear f191
      have e190 : h177 3 1 = 58 := by omega
      have hF : (wk_F t m w l br c x y p) = (h177 3 2) := by have hgo := wk_go_i (w := w) (l := l) (br := br) (x := x) (y := y) (way := pt_wt t m p); unfold wk_F; (repeat' split) <;> omega
      have cf193 : h177 82 0 = h 82 0 := congrFun (E185) 0
      have cf194 : h177 82 1 = h 82 1 := congrFun (E185) 1
      exact ov_retz (st := []) d_90_15 rfl (by omega) ⟨_, rfl, I178, (fun a ca => (fr189 a ca)), (Or.inl ⟨rfl, (by show (h177 3 2) = (wk_F t m w l br c x y p) ∧ 1 ≤ (wk_F t m w l br c x y p) ∧ (h177 3 1) = (h 3 1); omega)⟩)⟩
abbrev P_fReader_readStep_3_82_k3_1_70 (F : ov_H) (z : ov_Z) (h : ov_H) (t : Int → Int) (m : Int) (p : Int) (w : Int) (l : Int) (br : Int → Int) (c : Int) (x : Int) (y : Int) : Option ov_V → ov_Z → ov_H → Prop := fun r0 z' h' => ∃ r : Int, r0 = some (ov_i r) ∧ ov_I F z' h' ∧ (∀ a : Int, a ≠ 1 ∧ a ≠ 3 ∧ (a < 82 ∨ 85 < a) → h' a = h a) ∧ ((r = 0 ∧ ((h' 3 2) = (wk_F t m w l br c x y p) ∧ 1 ≤ (wk_F t m w l br c x y p) ∧ (h' 3 1) = (h 3 1))) ∨ (r = 0 ∧ ((wk_F t m w l br c x y p) = 0 ∧ (pt_is t m (pt_nt t m (pt_nt t m p)) 59) = 0 ∧ (h' 3 2) = 1 + 16 * (pt_nt t m (pt_nt t m p)) ∧ 0 ≤ (pt_nt t m (pt_nt t m p)) ∧ (h' 3 1) = (h 3 1))) ∨ (r = 1 ∧ ((wk_F t m w l br c x y p) = 0 ∧ (pt_is t m (pt_nt t m (pt_nt t m p)) 59) = 1 ∧ 0 ≤ (pt_wt t m p) ∧ (pt_wt t m p) ≤ 1 ∧ c < 13 ∧ 0 ≤ (pt_nm t m (pt_nt t m p)) ∧ (pt_nm t m (pt_nt t m p)) ≤ 9999 ∧ 0 ≤ x + (1 - (pt_wt t m p)) ∧ x + (1 - (pt_wt t m p)) ≤ 5 ∧ 0 ≤ y + (pt_wt t m p) ∧ y + (pt_wt t m p) ≤ 8 ∧ (h' 82 0) = c + 1 ∧ (h' 82 1) = 6 * (y + (pt_wt t m p)) + (x + (1 - (pt_wt t m p))) ∧ (h' 3 1) = (h 3 1) ∧ (h' 3 2) = (h 3 2)) ∧ (pt_TC t m (h' 1) (pt_nt t m (pt_nt t m (pt_nt t m p)))) ∧ ((h' 83) = ov_rs (h 83) c (6 * y + x)) ∧ ((h' 84) = ov_rs (h 84) c (pt_wt t m p)) ∧ ((h' 85) = ov_rs (h 85) c (pt_nm t m (pt_nt t m p)))))

abbrev P_fReader_readLight_3_k3_1_58 (F : ov_H) (z : ov_Z) (h : ov_H) (t : Int → Int) (m : Int) (p : Int) (A : Int → Int) : Option ov_V → ov_Z → ov_H → Prop := fun r0 z' h' => ∃ r : Int, r0 = some (ov_i r) ∧ ov_I F z' h' ∧ (∀ a : Int, a ≠ 1 ∧ a ≠ 3 ∧ (a < 58 ∨ 62 < a) → h' a = h a) ∧ ((r = 0 ∧ ((h' 3 2) = (pt_liF t m A p) ∧ 1 ≤ (pt_liF t m A p) ∧ (h' 3 1) = (h 3 1))) ∨ (r = 0 ∧ ((pt_liF t m A p) = 0 ∧ (pt_is t m (pt_nt t m (pt_nt t m (pt_nt t m (pt_nt t m (pt_nt t m (pt_nt t m (pt_nt t m (pt_nt t m (pt_nt t m (pt_nt t m p)))))))))) 59) = 0 ∧ (h' 3 2) = 1 + 16 * (pt_nt t m (pt_nt t m (pt_nt t m (pt_nt t m (pt_nt t m (pt_nt t m (pt_nt t m (pt_nt t m (pt_nt t m (pt_nt t m p)))))))))) ∧ 0 ≤ (pt_nt t m (pt_nt t m (pt_nt t m (pt_nt t m (pt_nt t m (pt_nt t m (pt_nt t m (pt_nt t m (pt_nt t m (pt_nt t m p)))))))))) ∧ (h' 3 1) = (h 3 1))) ∨ (r = 1 ∧ ((pt_liF t m A p) = 0 ∧ (pt_is t m (pt_nt t m (pt_nt t m (pt_nt t m (pt_nt t m (pt_nt t m (pt_nt t m (pt_nt t m (pt_nt t m (pt_nt t m (pt_nt t m p)))))))))) 59) = 1 ∧ (h' 3 1) = (h 3 1) ∧ (h' 3 2) = (h 3 2)) ∧ (pt_TC t m (h' 1) (pt_nt t m (pt_nt t m (pt_nt t m (pt_nt t m (pt_nt t m (pt_nt t m (pt_nt t m (pt_nt t m (pt_nt t m (pt_nt t m (pt_nt t m p)))))))))))) ∧ (pt_CR t m (pt_liA t m A p) (h' 58) (h' 59) (h' 60) (h' 61) (h' 62) (h' 63) (h' 64) (h' 66))))
set_option maxHeartbeats 4000000 in
theorem c_fReader_readLight_3_k3_1_58 {u : ov_U} {F : ov_H} (t : Int → Int) (m : Int) (p : Int) (A : Int → Int) {z : ov_Z} {h : ov_H} (d : Nat) (hd : 7 ≤ d) (U : ov_cap u) (I : ov_I F z h) (hw : ov_kw 8935141660703064074 F) (k0 : h 3 1 = 58) (et : (h 2) = t) (tc : pt_TC t m (h 1) p) (cr : pt_CR t m A (h 58) (h 59) (h 60) (h 61) (h 62) (h 63) (h 64) (h 66)) : ov_T u d ov_m58 [ov_r 3] z h (P_fReader_readLight_3_k3_1_58 F z h t m p A) := by
  refine ov_en rfl (Nat.le_of_ble_eq_true rfl) ?_
  show ov_R u d ov_m58 0 [(0, ov_r 3)] [] z h (P_fReader_readLight_3_k3_1_58 F z h t m p A)
  have gA := pt_CR_r cr
  have tb := pt_TC_b tc
  refine ov_blk (ls2 := [(0, ov_r 3)]) (st2 := [ov_r 3]) (pc2 := 1) b_58_0_1 rfl rfl ?_
  refine ov_getf (v := ov_r 1) d_58_1 fl_Reader_9 (zb_3 I) (zs_3 I) (congrArg ov_r (rg_3_0 I)) ?_
  refine ov_cV (as := []) (st := []) (d2 := d - 1) d_58_4 lk_Reader_75 rfl (Nat.le_of_ble_eq_true rfl) (c := 8) (zb_1 I) (zs_1 I) ⟨by decide, rfl⟩ (by omega) (c_fTape_advance_1_t t m p (d - 1) (by omega) U I (ov_kws hw (by decide +kernel)) (show h 2 = t from Eq.trans (show h 2 = h 2 from rfl) et) tc) ?_
  rintro _ z1 h2 ⟨rfl, I3, y4, y5⟩
  have E6 : h2 2 = h 2 := Eq.trans (y4 2 (by decide)) (show h 2 = h 2 from rfl)
  have E7 : h2 3 = h 3 := Eq.trans (y4 3 (by decide)) (show h 3 = h 3 from rfl)
  have E8 : h2 58 = h 58 := Eq.trans (y4 58 (by decide)) (show h 58 = h 58 from rfl)
  have E9 : h2 59 = h 59 := Eq.trans (y4 59 (by decide)) (show h 59 = h 59 from rfl)
  have E10 : h2 60 = h 60 := Eq.trans (y4 60 (by decide)) (show h 60 = h 60 from rfl)
  have E11 : h2 61 = h 61 := Eq.trans (y4 61 (by decide)) (show h 61 = h 61 from rfl)
  have E12 : h2 62 = h 62 := Eq.trans (y4 62 (by decide)) (show h 62 = h 62 from rfl)
  have E13 : h2 63 = h 63 := Eq.trans (y4 63 (by decide)) (show h 63 = h 63 from rfl)
  have E14 : h2 64 = h 64 := Eq.trans (y4 64 (by decide)) (show h 64 = h 64 from rfl)
  have E15 : h2 66 = h 66 := Eq.trans (y4 66 (by decide)) (show h 66 = h 66 from rfl)
  have fr16 : ∀ a : Int, a ≠ 1 ∧ a ≠ 3 ∧ (a < 58 ∨ 62 < a) → h2 a = h a := fun a ca => Eq.trans (y4 a (by omega)) rfl
  have e17 : h2 3 1 = 58 := Eq.trans (congrFun (show h2 3 = h 3 from y4 3 (by decide)) 1) k0
  have y5_ : pt_TC t m (h2 1) (pt_nt t m p) := y5
  have g18 := pt_TC_b y5_
  have g19 := pt_nt_le (t := t) (n := m) (p := p) (by omega)
  show ov_R u d ov_m58 7 [(0, ov_r 3)] [] z1 h2 (P_fReader_readLight_3_k3_1_58 F z h t m p A)
  refine ov_blk (ls2 := [(0, ov_r 3)]) (st2 := [ov_r 3, ov_i 0, ov_r 3]) (pc2 := 10) b_58_7_3 rfl rfl ?_
  refine ov_getf (v := ov_r 58) d_58_10 fl_Reader_15 (zb_3 I3) (zs_3 I3) (congrArg ov_r e17) ?_
  have e20 : h2 58 0 = (A 0) := Eq.trans (congrFun (show h2 58 = h 58 from E8) 0) (pt_CR_0 cr)
  refine ov_getf (v := ov_i (A 0)) d_58_13 fl_Reader_102 (zb_58 I3) (zs_58 I3) (congrArg ov_i e20) ?_
  have g21 := rg_58_0 I3
  rw [e20] at g21
  refine ov_blk (ls2 := [(0, ov_r 3)]) (st2 := [ov_i ((A 0) - 1), ov_i 0, ov_r 3]) (pc2 := 18) b_58_16_2 rfl rfl ?_
  refine ov_cV (as := [ov_i 0, ov_i ((A 0) - 1)]) (st := []) (d2 := d - 1) d_58_18 lk_Reader_78 rfl (Nat.le_of_ble_eq_true rfl) (c := 6) (zb_3 I3) (zs_3 I3) ⟨by decide, rfl⟩ (by omega) (c_fReader_takeNumber_3 t m (pt_nt t m p) (d - 1) (by omega) U I3 (ov_kws hw (by decide +kernel)) 0 ((A 0) - 1) (by omega) (by omega) (show h2 2 = t from Eq.trans (show h2 2 = h 2 from E6) et) y5_) ?_
  rintro _ z23 h24 ⟨v22, rfl, I25, y26, y27⟩
  have E28 : h24 2 = h 2 := Eq.trans (y26 2 (by decide)) (show h2 2 = h 2 from E6)
  have E29 : h24 58 = h 58 := Eq.trans (y26 58 (by decide)) (show h2 58 = h 58 from E8)
  have E30 : h24 59 = h 59 := Eq.trans (y26 59 (by decide)) (show h2 59 = h 59 from E9)
  have E31 : h24 60 = h 60 := Eq.trans (y26 60 (by decide)) (show h2 60 = h 60 from E10)
  have E32 : h24 61 = h 61 := Eq.trans (y26 61 (by decide)) (show h2 61 = h 61 from E11)
  have E33 : h24 62 = h 62 := Eq.trans (y26 62 (by decide)) (show h2 62 = h 62 from E12)
  have E34 : h24 63 = h 63 := Eq.trans (y26 63 (by decide)) (show h2 63 = h 63 from E13)
  have E35 : h24 64 = h 64 := Eq.trans (y26 64 (by decide)) (show h2 64 = h 64 from E14)
  have E36 : h24 66 = h 66 := Eq.trans (y26 66 (by decide)) (show h2 66 = h 66 from E15)
  have fr37 : ∀ a : Int, a ≠ 1 ∧ a ≠ 3 ∧ (a < 58 ∨ 62 < a) → h24 a = h a := fun a ca => Eq.trans (y26 a (by omega)) (fr16 a ca)
  have cf39 : h2 3 1 = h 3 1 := congrFun E7 1
  have cf40 : h2 3 2 = h 3 2 := congrFun E7 2
  rcases y27 with ⟨rfl, f41⟩ | ⟨rfl, f42, y43⟩
  · skip
    show ov_R u d ov_m58 21 [(0, ov_r 3)] [ov_i 0] z23 h24 (P_fReader_readLight_3_k3_1_58 F z h t m p A)
    have f44 : (h24 3 2) = (pt_fN t m (0 : Int) ((A 0) - 1) (pt_nt t m p)) ∧ 1 ≤ (pt_fN t m (0 : Int) ((A 0) - 1) (pt_nt t m p)) ∧ (h24 3 1) = (h2 3 1) := f41
    clear f41
    have e38 : h24 3 1 = 58 := by omega
    refine ov_ifne (tgt := 26) d_58_21 (by decide) (by omega) (fun c45 => ?_) (fun c45 => ?_)
    · omega
    · skip
      refine ov_blk (ls2 := [(0, ov_r 3)]) (st2 := [ov_i 0]) (pc2 := 25) b_58_24_1 rfl rfl ?_
      have hF : (pt_liF t m A p) = (h24 3 2) := by unfold pt_liF; (repeat' split) <;> omega
      exact ov_retz (st := []) d_58_25 rfl (by omega) ⟨_, rfl, I25, (fun a ca => (fr37 a ca)), (Or.inl ⟨rfl, (by show (h24 3 2) = (pt_liF t m A p) ∧ 1 ≤ (pt_liF t m A p) ∧ (h24 3 1) = (h 3 1); omega)⟩)⟩
  · skip
    show ov_R u d ov_m58 21 [(0, ov_r 3)] [ov_i 1] z23 h24 (P_fReader_readLight_3_k3_1_58 F z h t m p A)
    have f46 : (pt_fN t m (0 : Int) ((A 0) - 1) (pt_nt t m p)) = 0 ∧ (0 : Int) ≤ (pt_nm t m (pt_nt t m p)) ∧ (pt_nm t m (pt_nt t m p)) ≤ ((A 0) - 1) ∧ (h24 3 3) = (pt_nm t m (pt_nt t m p)) ∧ 0 ≤ (pt_nm t m (pt_nt t m p)) ∧ (pt_nm t m (pt_nt t m p)) ≤ 9999 ∧ (h24 3 1) = (h2 3 1) ∧ (h24 3 2) = (h2 3 2) := f42
    clear f42
    have e38 : h24 3 1 = 58 := by omega
    have y43_ : pt_TC t m (h24 1) (pt_nt t m (pt_nt t m p)) := y43
    have g47 := pt_TC_b y43_
    have g48 := pt_nt_le (t := t) (n := m) (p := (pt_nt t m p)) (by omega)
    have e49 : h24 3 3 = (pt_nm t m (pt_nt t m p)) := by omega
    refine ov_ifne (tgt := 26) d_58_21 (by decide) (by omega) (fun c50 => ?_) (fun c50 => ?_)
    · skip
      refine ov_blk (ls2 := [(0, ov_r 3)]) (st2 := [ov_r 3]) (pc2 := 27) b_58_26_1 rfl rfl ?_
      have e51 : h24 3 3 = (pt_nm t m (pt_nt t m p)) := e49
      refine ov_getf (v := ov_i (pt_nm t m (pt_nt t m p))) d_58_27 fl_Reader_81 (zb_3 I25) (zs_3 I25) (congrArg ov_i e51) ?_
      have g52 := rg_3_3 I25
      rw [e51] at g52
      refine ov_blk (ls2 := [(0, ov_r 3), (1, ov_i (pt_nm t m (pt_nt t m p)))]) (st2 := [ov_r 3, ov_i 0, ov_r 3]) (pc2 := 34) b_58_30_4 rfl rfl ?_
      refine ov_getf (v := ov_r 58) d_58_34 fl_Reader_15 (zb_3 I25) (zs_3 I25) (congrArg ov_r e38) ?_
      have e53 : h24 58 1 = (A 1) := Eq.trans (congrFun (show h24 58 = h 58 from E29) 1) (pt_CR_1 cr)
      refine ov_getf (v := ov_i (A 1)) d_58_37 fl_Reader_105 (zb_58 I25) (zs_58 I25) (congrArg ov_i e53) ?_
      have g54 := rg_58_1 I25
      rw [e53] at g54
      refine ov_blk (ls2 := [(0, ov_r 3), (1, ov_i (pt_nm t m (pt_nt t m p)))]) (st2 := [ov_i ((A 1) - 1), ov_i 0, ov_r 3]) (pc2 := 42) b_58_40_2 rfl rfl ?_
      refine ov_cV (as := [ov_i 0, ov_i ((A 1) - 1)]) (st := []) (d2 := d - 1) d_58_42 lk_Reader_143 rfl (Nat.le_of_ble_eq_true rfl) (c := 6) (zb_3 I25) (zs_3 I25) ⟨by decide, rfl⟩ (by omega) (c_fReader_isNumber_3 t m (pt_nt t m (pt_nt t m p)) (d - 1) (by omega) U I25 (ov_kws hw (by decide +kernel)) 0 ((A 1) - 1) (by omega) (by omega) (show h24 2 = t from Eq.trans (show h24 2 = h 2 from E28) et) y43_) ?_
      rintro _ z56 h57 ⟨v55, rfl, I58, y59, y60⟩
      have E61 : h57 1 = h24 1 := Eq.trans (y59 1 (by decide)) (show h24 1 = h24 1 from rfl)
      have E62 : h57 2 = h 2 := Eq.trans (y59 2 (by decide)) (show h24 2 = h 2 from E28)
      have E63 : h57 58 = h 58 := Eq.trans (y59 58 (by decide)) (show h24 58 = h 58 from E29)
      have E64 : h57 59 = h 59 := Eq.trans (y59 59 (by decide)) (show h24 59 = h 59 from E30)
      have E65 : h57 60 = h 60 := Eq.trans (y59 60 (by decide)) (show h24 60 = h 60 from E31)
      have E66 : h57 61 = h 61 := Eq.trans (y59 61 (by decide)) (show h24 61 = h 61 from E32)
      have E67 : h57 62 = h 62 := Eq.trans (y59 62 (by decide)) (show h24 62 = h 62 from E33)
      have E68 : h57 63 = h 63 := Eq.trans (y59 63 (by decide)) (show h24 63 = h 63 from E34)
      have E69 : h57 64 = h 64 := Eq.trans (y59 64 (by decide)) (show h24 64 = h 64 from E35)
      have E70 : h57 66 = h 66 := Eq.trans (y59 66 (by decide)) (show h24 66 = h 66 from E36)
      have fr71 : ∀ a : Int, a ≠ 1 ∧ a ≠ 3 ∧ (a < 58 ∨ 62 < a) → h57 a = h a := fun a ca => Eq.trans (y59 a (by omega)) (fr37 a ca)
      rcases y60 with ⟨rfl, f73⟩ | ⟨rfl, f74⟩
      · skip
        show ov_R u d ov_m58 45 [(0, ov_r 3), (1, ov_i (pt_nm t m (pt_nt t m p)))] [ov_i 0] z56 h57 (P_fReader_readLight_3_k3_1_58 F z h t m p A)
        have f75 : (h57 3 2) = (pt_fN t m (0 : Int) ((A 1) - 1) (pt_nt t m (pt_nt t m p))) ∧ 1 ≤ (pt_fN t m (0 : Int) ((A 1) - 1) (pt_nt t m (pt_nt t m p))) ∧ (h57 3 1) = (h24 3 1) := f73
        clear f73
        have e72 : h57 3 1 = 58 := by omega
        refine ov_ifne (tgt := 50) d_58_45 (by decide) (by omega) (fun c76 => ?_) (fun c76 => ?_)
        · omega
        · skip
          refine ov_blk (ls2 := [(0, ov_r 3), (1, ov_i (pt_nm t m (pt_nt t m p)))]) (st2 := [ov_i 0]) (pc2 := 49) b_58_48_1 rfl rfl ?_
          have hF : (pt_liF t m A p) = (h57 3 2) := by unfold pt_liF; (repeat' split) <;> omega
          exact ov_retz (st := []) d_58_49 rfl (by omega) ⟨_, rfl, I58, (fun a ca => (fr71 a ca)), (Or.inl ⟨rfl, (by show (h57 3 2) = (pt_liF t m A p) ∧ 1 ≤ (pt_liF t m A p) ∧ (h57 3 1) = (h 3 1); omega)⟩)⟩
      · skip
        show ov_R u d ov_m58 45 [(0, ov_r 3), (1, ov_i (pt_nm t m (pt_nt t m p)))] [ov_i 1] z56 h57 (P_fReader_readLight_3_k3_1_58 F z h t m p A)
        have f77 : (pt_fN t m (0 : Int) ((A 1) - 1) (pt_nt t m (pt_nt t m p))) = 0 ∧ pt_ty t m (pt_nt t m (pt_nt t m p)) = 3 ∧ (0 : Int) ≤ (pt_nm t m (pt_nt t m (pt_nt t m p))) ∧ (pt_nm t m (pt_nt t m (pt_nt t m p))) ≤ ((A 1) - 1) ∧ (h57 3 1) = (h24 3 1) ∧ (h57 3 2) = (h24 3 2) := f74
        clear f74
        have e72 : h57 3 1 = 58 := by omega
        refine ov_ifne (tgt := 50) d_58_45 (by decide) (by omega) (fun c78 => ?_) (fun c78 => ?_)
        · skip
          refine ov_blk (ls2 := [(0, ov_r 3), (1, ov_i (pt_nm t m (pt_nt t m p)))]) (st2 := [ov_r 3, ov_i 6, ov_i (pt_nm t m (pt_nt t m p))]) (pc2 := 54) b_58_50_3 rfl rfl ?_
          refine ov_getf (v := ov_r 1) d_58_54 fl_Reader_9 (zb_3 I58) (zs_3 I58) (congrArg ov_r (rg_3_0 I58)) ?_
          have e79 : h57 1 4 = (pt_nm t m (pt_nt t m (pt_nt t m p))) := Eq.trans (congrFun (show h57 1 = h24 1 from E61) 4) (pt_TC_n y43_ (by omega))
          refine ov_getf (v := ov_i (pt_nm t m (pt_nt t m (pt_nt t m p)))) d_58_57 fl_Reader_146 (zb_1 I58) (zs_1 I58) (congrArg ov_i e79) ?_
          have g80 := rg_1_4 I58
          rw [e79] at g80
          refine ov_blk (ls2 := [(0, ov_r 3), (1, ov_i ((pt_nm t m (pt_nt t m p)) + (6 * (pt_nm t m (pt_nt t m (pt_nt t m p))))))]) (st2 := [ov_r 3]) (pc2 := 64) b_58_60_4 rfl rfl ?_
          refine ov_getf (v := ov_r 58) d_58_64 fl_Reader_15 (zb_3 I58) (zs_3 I58) (congrArg ov_r e72) ?_
          refine ov_getf (v := ov_r 59) d_58_67 fl_Reader_147 (zb_58 I58) (zs_58 I58) (congrArg ov_r (rg_58_2 I58)) ?_
          refine ov_blk (ls2 := [(0, ov_r 3), (1, ov_i ((pt_nm t m (pt_nt t m p)) + (6 * (pt_nm t m (pt_nt t m (pt_nt t m p))))))]) (st2 := [ov_i ((pt_nm t m (pt_nt t m p)) + (6 * (pt_nm t m (pt_nt t m (pt_nt t m p))))), ov_r 59]) (pc2 := 71) b_58_70_1 rfl rfl ?_
          refine ov_iald d_58_71 (zb_59 I58) (zs_59 I58) (by omega) ?_
          have g82 := ra_59 I58 ((pt_nm t m (pt_nt t m p)) + (6 * (pt_nm t m (pt_nt t m (pt_nt t m p)))))
          have e81 : h57 59 ((pt_nm t m (pt_nt t m p)) + (6 * (pt_nm t m (pt_nt t m (pt_nt t m p))))) = (A (10 + 4 * ((pt_nm t m (pt_nt t m p)) + (6 * (pt_nm t m (pt_nt t m (pt_nt t m p)))))) - 1) := Eq.trans (congrFun (show h57 59 = h 59 from E64) ((pt_nm t m (pt_nt t m p)) + (6 * (pt_nm t m (pt_nt t m (pt_nt t m p)))))) (pt_CR_k cr (by omega))
          rw [e81] at g82
          rw [e81]
          show ov_R u d ov_m58 72 [(0, ov_r 3), (1, ov_i ((pt_nm t m (pt_nt t m p)) + (6 * (pt_nm t m (pt_nt t m (pt_nt t m p))))))] [ov_i (A (10 + 4 * ((pt_nm t m (pt_nt t m p)) + (6 * (pt_nm t m (pt_nt t m (pt_nt t m p)))))) - 1)] z56 h57 (P_fReader_readLight_3_k3_1_58 F z h t m p A)
          refine ov_blk (ls2 := [(0, ov_r 3), (1, ov_i ((pt_nm t m (pt_nt t m p)) + (6 * (pt_nm t m (pt_nt t m (pt_nt t m p))))))]) (st2 := [ov_i (-1), ov_i (A (10 + 4 * ((pt_nm t m (pt_nt t m p)) + (6 * (pt_nm t m (pt_nt t m (pt_nt t m p)))))) - 1)]) (pc2 := 73) b_58_72_1 rfl rfl ?_
          refine ov_iceq (tgt := 82) d_58_73 (by decide) (by omega) (by omega) (fun c83 => ?_) (fun c83 => ?_)
          · skip
            refine ov_blk (ls2 := [(0, ov_r 3), (1, ov_i ((pt_nm t m (pt_nt t m p)) + (6 * (pt_nm t m (pt_nt t m (pt_nt t m p))))))]) (st2 := [ov_r 3]) (pc2 := 83) b_58_82_1 rfl rfl ?_
            refine ov_getf (v := ov_r 1) d_58_83 fl_Reader_9 (zb_3 I58) (zs_3 I58) (congrArg ov_r (rg_3_0 I58)) ?_
            refine ov_cV (as := []) (st := []) (d2 := d - 1) d_58_86 lk_Reader_75 rfl (Nat.le_of_ble_eq_true rfl) (c := 8) (zb_1 I58) (zs_1 I58) ⟨by decide, rfl⟩ (by omega) (c_fTape_advance_1_t t m (pt_nt t m (pt_nt t m p)) (d - 1) (by omega) U I58 (ov_kws hw (by decide +kernel)) (show h57 2 = t from Eq.trans (show h57 2 = h 2 from E62) et) (by rw [show h57 1 = h24 1 from E61]; exact y43_)) ?_
            rintro _ z84 h85 ⟨rfl, I86, y87, y88⟩
            have E89 : h85 2 = h 2 := Eq.trans (y87 2 (by decide)) (show h57 2 = h 2 from E62)
            have E90 : h85 3 = h57 3 := Eq.trans (y87 3 (by decide)) (show h57 3 = h57 3 from rfl)
            have E91 : h85 58 = h 58 := Eq.trans (y87 58 (by decide)) (show h57 58 = h 58 from E63)
            have E92 : h85 59 = h 59 := Eq.trans (y87 59 (by decide)) (show h57 59 = h 59 from E64)
            have E93 : h85 60 = h 60 := Eq.trans (y87 60 (by decide)) (show h57 60 = h 60 from E65)
            have E94 : h85 61 = h 61 := Eq.trans (y87 61 (by decide)) (show h57 61 = h 61 from E66)
            have E95 : h85 62 = h 62 := Eq.trans (y87 62 (by decide)) (show h57 62 = h 62 from E67)
            have E96 : h85 63 = h 63 := Eq.trans (y87 63 (by decide)) (show h57 63 = h 63 from E68)
            have E97 : h85 64 = h 64 := Eq.trans (y87 64 (by decide)) (show h57 64 = h 64 from E69)
            have E98 : h85 66 = h 66 := Eq.trans (y87 66 (by decide)) (show h57 66 = h 66 from E70)
            have fr99 : ∀ a : Int, a ≠ 1 ∧ a ≠ 3 ∧ (a < 58 ∨ 62 < a) → h85 a = h a := fun a ca => Eq.trans (y87 a (by omega)) (fr71 a ca)
            have e100 : h85 3 1 = 58 := Eq.trans (congrFun (show h85 3 = h57 3 from y87 3 (by decide)) 1) e72
            have y88_ : pt_TC t m (h85 1) (pt_nt t m (pt_nt t m (pt_nt t m p))) := y88
            have g101 := pt_TC_b y88_
            have g102 := pt_nt_le (t := t) (n := m) (p := (pt_nt t m (pt_nt t m p))) (by omega)
            show ov_R u d ov_m58 89 [(0, ov_r 3), (1, ov_i ((pt_nm t m (pt_nt t m p)) + (6 * (pt_nm t m (pt_nt t m (pt_nt t m p))))))] [] z84 h85 (P_fReader_readLight_3_k3_1_58 F z h t m p A)
            refine ov_blk (ls2 := [(0, ov_r 3), (1, ov_i ((pt_nm t m (pt_nt t m p)) + (6 * (pt_nm t m (pt_nt t m (pt_nt t m p))))))]) (st2 := [ov_r 3]) (pc2 := 90) b_58_89_1 rfl rfl ?_
            refine ov_cV (as := []) (st := []) (d2 := d - 1) d_58_90 lk_Reader_151 rfl (Nat.le_of_ble_eq_true rfl) (c := 6) (zb_3 I86) (zs_3 I86) ⟨by decide, rfl⟩ (by omega) (c_fReader_kindTold_3 t m (pt_nt t m (pt_nt t m (pt_nt t m p))) (d - 1) (by omega) U I86 y88_) ?_
            rintro _ _ _ ⟨v103, rfl, rfl, rfl, rfl⟩
            have g104 := @pt_kt_b t m (pt_nt t m (pt_nt t m (pt_nt t m p)))
            show ov_R u d ov_m58 93 [(0, ov_r 3), (1, ov_i ((pt_nm t m (pt_nt t m p)) + (6 * (pt_nm t m (pt_nt t m (pt_nt t m p))))))] [ov_i (pt_kt t m (pt_nt t m (pt_nt t m (pt_nt t m p))))] z84 h85 (P_fReader_readLight_3_k3_1_58 F z h t m p A)
            refine ov_blk (ls2 := [(0, ov_r 3), (1, ov_i ((pt_nm t m (pt_nt t m p)) + (6 * (pt_nm t m (pt_nt t m (pt_nt t m p)))))), (2, ov_i (pt_kt t m (pt_nt t m (pt_nt t m (pt_nt t m p)))))]) (st2 := [ov_i (-1), ov_i (pt_kt t m (pt_nt t m (pt_nt t m (pt_nt t m p))))]) (pc2 := 96) b_58_93_3 rfl rfl ?_
            refine ov_icne (tgt := 105) d_58_96 (by decide) (by omega) (by omega) (fun c105 => ?_) (fun c105 => ?_)
            · skip
              refine ov_blk (ls2 := [(0, ov_r 3), (1, ov_i ((pt_nm t m (pt_nt t m p)) + (6 * (pt_nm t m (pt_nt t m (pt_nt t m p)))))), (2, ov_i (pt_kt t m (pt_nt t m (pt_nt t m (pt_nt t m p)))))]) (st2 := [ov_r 3]) (pc2 := 106) b_58_105_1 rfl rfl ?_
              refine ov_getf (v := ov_r 58) d_58_106 fl_Reader_15 (zb_3 I86) (zs_3 I86) (congrArg ov_r e100) ?_
              refine ov_getf (v := ov_r 59) d_58_109 fl_Reader_147 (zb_58 I86) (zs_58 I86) (congrArg ov_r (rg_58_2 I86)) ?_
              refine ov_blk (ls2 := [(0, ov_r 3), (1, ov_i ((pt_nm t m (pt_nt t m p)) + (6 * (pt_nm t m (pt_nt t m (pt_nt t m p)))))), (2, ov_i (pt_kt t m (pt_nt t m (pt_nt t m (pt_nt t m p)))))]) (st2 := [ov_i (pt_kt t m (pt_nt t m (pt_nt t m (pt_nt t m p)))), ov_i ((pt_nm t m (pt_nt t m p)) + (6 * (pt_nm t m (pt_nt t m (pt_nt t m p))))), ov_r 59]) (pc2 := 114) b_58_112_2 rfl rfl ?_
              refine ov_iast d_58_114 (zb_59 I86) (zs_59 I86) (by omega) ?_
              have I106 := ua_59 (k := ((pt_nm t m (pt_nt t m p)) + (6 * (pt_nm t m (pt_nt t m (pt_nt t m p)))))) (x := (pt_kt t m (pt_nt t m (pt_nt t m (pt_nt t m p))))) I86 (by omega) (hw 59 (by decide +kernel))
              refine ov_blk (ls2 := [(0, ov_r 3), (1, ov_i ((pt_nm t m (pt_nt t m p)) + (6 * (pt_nm t m (pt_nt t m (pt_nt t m p)))))), (2, ov_i (pt_kt t m (pt_nt t m (pt_nt t m (pt_nt t m p)))))]) (st2 := [ov_r 3]) (pc2 := 116) b_58_115_1 rfl rfl ?_
              refine ov_getf (v := ov_r 58) d_58_116 fl_Reader_15 (zb_3 I106) (zs_3 I106) (congrArg ov_r e100) ?_
              refine ov_blk (ls2 := [(0, ov_r 3), (1, ov_i ((pt_nm t m (pt_nt t m p)) + (6 * (pt_nm t m (pt_nt t m (pt_nt t m p)))))), (2, ov_i (pt_kt t m (pt_nt t m (pt_nt t m (pt_nt t m p)))))]) (st2 := [ov_r 58, ov_r 58]) (pc2 := 120) b_58_119_1 rfl rfl ?_
              have e107 : (ov_up h85 59 ((pt_nm t m (pt_nt t m p)) + (6 * (pt_nm t m (pt_nt t m (pt_nt t m p))))) (pt_kt t m (pt_nt t m (pt_nt t m (pt_nt t m p))))) 58 9 = (A 7) := Eq.trans (congrFun (show (ov_up h85 59 ((pt_nm t m (pt_nt t m p)) + (6 * (pt_nm t m (pt_nt t m (pt_nt t m p))))) (pt_kt t m (pt_nt t m (pt_nt t m (pt_nt t m p))))) 58 = h 58 from E91) 9) (pt_CR_9 cr)
              refine ov_getf (v := ov_i (A 7)) d_58_120 fl_Reader_154 (zb_58 I106) (zs_58 I106) (congrArg ov_i e107) ?_
              have g108 := rg_58_9 I106
              rw [e107] at g108
              refine ov_blk (ls2 := [(0, ov_r 3), (1, ov_i ((pt_nm t m (pt_nt t m p)) + (6 * (pt_nm t m (pt_nt t m (pt_nt t m p)))))), (2, ov_i (pt_kt t m (pt_nt t m (pt_nt t m (pt_nt t m p)))))]) (st2 := [ov_i ((A 7) + 1), ov_r 58]) (pc2 := 125) b_58_123_2 rfl rfl ?_
              refine ov_nrm ?_
              have g109 := ov_wg ((A 7) + 1)
              refine ov_putf (x := (ov_w ((A 7) + 1))) d_58_125 fl_Reader_154 (zb_58 I106) (zs_58 I106) rfl nk_0 rfl ?_
              have I110 := up_58_9 (x := (ov_w ((A 7) + 1))) I106 (by omega) (hw 58 (by decide +kernel))
              show ov_R u d ov_m58 128 [(0, ov_r 3), (1, ov_i ((pt_nm t m (pt_nt t m p)) + (6 * (pt_nm t m (pt_nt t m (pt_nt t m p)))))), (2, ov_i (pt_kt t m (pt_nt t m (pt_nt t m (pt_nt t m p)))))] [] z84 (ov_up (ov_up h85 59 ((pt_nm t m (pt_nt t m p)) + (6 * (pt_nm t m (pt_nt t m (pt_nt t m p))))) (pt_kt t m (pt_nt t m (pt_nt t m (pt_nt t m p))))) 58 9 (ov_w ((A 7) + 1))) (P_fReader_readLight_3_k3_1_58 F z h t m p A)
              refine ov_blk (ls2 := [(0, ov_r 3), (1, ov_i ((pt_nm t m (pt_nt t m p)) + (6 * (pt_nm t m (pt_nt t m (pt_nt t m p)))))), (2, ov_i (pt_kt t m (pt_nt t m (pt_nt t m (pt_nt t m p)))))]) (st2 := [ov_r 3]) (pc2 := 129) b_58_128_1 rfl rfl ?_
              refine ov_getf (v := ov_r 1) d_58_129 fl_Reader_9 (zb_3 I110) (zs_3 I110) (congrArg ov_r (rg_3_0 I110)) ?_
              refine ov_cV (as := []) (st := []) (d2 := d - 1) d_58_132 lk_Reader_75 rfl (Nat.le_of_ble_eq_true rfl) (c := 8) (zb_1 I110) (zs_1 I110) ⟨by decide, rfl⟩ (by omega) (c_fTape_advance_1_t t m (pt_nt t m (pt_nt t m (pt_nt t m p))) (d - 1) (by omega) U I110 (ov_kws hw (by decide +kernel)) (show (ov_up (ov_up h85 59 ((pt_nm t m (pt_nt t m p)) + (6 * (pt_nm t m (pt_nt t m (pt_nt t m p))))) (pt_kt t m (pt_nt t m (pt_nt t m (pt_nt t m p))))) 58 9 (ov_w ((A 7) + 1))) 2 = t from Eq.trans (show (ov_up (ov_up h85 59 ((pt_nm t m (pt_nt t m p)) + (6 * (pt_nm t m (pt_nt t m (pt_nt t m p))))) (pt_kt t m (pt_nt t m (pt_nt t m (pt_nt t m p))))) 58 9 (ov_w ((A 7) + 1))) 2 = h 2 from E89) et) (by rw [show (ov_up (ov_up h85 59 ((pt_nm t m (pt_nt t m p)) + (6 * (pt_nm t m (pt_nt t m (pt_nt t m p))))) (pt_kt t m (pt_nt t m (pt_nt t m (pt_nt t m p))))) 58 9 (ov_w ((A 7) + 1))) 1 = h85 1 from rfl]; exact y88_)) ?_
              rintro _ z111 h112 ⟨rfl, I113, y114, y115⟩
              have E116 : h112 2 = h 2 := Eq.trans (y114 2 (by decide)) (show (ov_up (ov_up h85 59 ((pt_nm t m (pt_nt t m p)) + (6 * (pt_nm t m (pt_nt t m (pt_nt t m p))))) (pt_kt t m (pt_nt t m (pt_nt t m (pt_nt t m p))))) 58 9 (ov_w ((A 7) + 1))) 2 = h 2 from E89)
              have E117 : h112 3 = h57 3 := Eq.trans (y114 3 (by decide)) (show (ov_up (ov_up h85 59 ((pt_nm t m (pt_nt t m p)) + (6 * (pt_nm t m (pt_nt t m (pt_nt t m p))))) (pt_kt t m (pt_nt t m (pt_nt t m (pt_nt t m p))))) 58 9 (ov_w ((A 7) + 1))) 3 = h57 3 from E90)
              have R119 : h112 58 = (ov_rs (h 58) 9 (ov_w ((A 7) + 1))) := Eq.trans (y114 58 (by decide)) (Eq.trans (ov_up_row (ov_up h85 59 ((pt_nm t m (pt_nt t m p)) + (6 * (pt_nm t m (pt_nt t m (pt_nt t m p))))) (pt_kt t m (pt_nt t m (pt_nt t m (pt_nt t m p))))) 58 9 (ov_w ((A 7) + 1))) (congrArg (fun f => ov_rs f 9 (ov_w ((A 7) + 1))) (Eq.trans (show (ov_up h85 59 ((pt_nm t m (pt_nt t m p)) + (6 * (pt_nm t m (pt_nt t m (pt_nt t m p))))) (pt_kt t m (pt_nt t m (pt_nt t m (pt_nt t m p))))) 58 = h85 58 from rfl) E91)))
              have R121 : h112 59 = (ov_rs (h 59) ((pt_nm t m (pt_nt t m p)) + (6 * (pt_nm t m (pt_nt t m (pt_nt t m p))))) (pt_kt t m (pt_nt t m (pt_nt t m (pt_nt t m p))))) := Eq.trans (y114 59 (by decide)) (Eq.trans (show (ov_up (ov_up h85 59 ((pt_nm t m (pt_nt t m p)) + (6 * (pt_nm t m (pt_nt t m (pt_nt t m p))))) (pt_kt t m (pt_nt t m (pt_nt t m (pt_nt t m p))))) 58 9 (ov_w ((A 7) + 1))) 59 = (ov_up h85 59 ((pt_nm t m (pt_nt t m p)) + (6 * (pt_nm t m (pt_nt t m (pt_nt t m p))))) (pt_kt t m (pt_nt t m (pt_nt t m (pt_nt t m p))))) 59 from rfl) (Eq.trans (ov_up_row h85 59 ((pt_nm t m (pt_nt t m p)) + (6 * (pt_nm t m (pt_nt t m (pt_nt t m p))))) (pt_kt t m (pt_nt t m (pt_nt t m (pt_nt t m p))))) (congrArg (fun f => ov_rs f ((pt_nm t m (pt_nt t m p)) + (6 * (pt_nm t m (pt_nt t m (pt_nt t m p))))) (pt_kt t m (pt_nt t m (pt_nt t m (pt_nt t m p))))) E92)))
              have E122 : h112 60 = h 60 := Eq.trans (y114 60 (by decide)) (show (ov_up (ov_up h85 59 ((pt_nm t m (pt_nt t m p)) + (6 * (pt_nm t m (pt_nt t m (pt_nt t m p))))) (pt_kt t m (pt_nt t m (pt_nt t m (pt_nt t m p))))) 58 9 (ov_w ((A 7) + 1))) 60 = h 60 from E93)
              have E123 : h112 61 = h 61 := Eq.trans (y114 61 (by decide)) (show (ov_up (ov_up h85 59 ((pt_nm t m (pt_nt t m p)) + (6 * (pt_nm t m (pt_nt t m (pt_nt t m p))))) (pt_kt t m (pt_nt t m (pt_nt t m (pt_nt t m p))))) 58 9 (ov_w ((A 7) + 1))) 61 = h 61 from E94)
              have E124 : h112 62 = h 62 := Eq.trans (y114 62 (by decide)) (show (ov_up (ov_up h85 59 ((pt_nm t m (pt_nt t m p)) + (6 * (pt_nm t m (pt_nt t m (pt_nt t m p))))) (pt_kt t m (pt_nt t m (pt_nt t m (pt_nt t m p))))) 58 9 (ov_w ((A 7) + 1))) 62 = h 62 from E95)
              have E125 : h112 63 = h 63 := Eq.trans (y114 63 (by decide)) (show (ov_up (ov_up h85 59 ((pt_nm t m (pt_nt t m p)) + (6 * (pt_nm t m (pt_nt t m (pt_nt t m p))))) (pt_kt t m (pt_nt t m (pt_nt t m (pt_nt t m p))))) 58 9 (ov_w ((A 7) + 1))) 63 = h 63 from E96)
              have E126 : h112 64 = h 64 := Eq.trans (y114 64 (by decide)) (show (ov_up (ov_up h85 59 ((pt_nm t m (pt_nt t m p)) + (6 * (pt_nm t m (pt_nt t m (pt_nt t m p))))) (pt_kt t m (pt_nt t m (pt_nt t m (pt_nt t m p))))) 58 9 (ov_w ((A 7) + 1))) 64 = h 64 from E97)
              have E127 : h112 66 = h 66 := Eq.trans (y114 66 (by decide)) (show (ov_up (ov_up h85 59 ((pt_nm t m (pt_nt t m p)) + (6 * (pt_nm t m (pt_nt t m (pt_nt t m p))))) (pt_kt t m (pt_nt t m (pt_nt t m (pt_nt t m p))))) 58 9 (ov_w ((A 7) + 1))) 66 = h 66 from E98)
              have fr128 : ∀ a : Int, a ≠ 1 ∧ a ≠ 3 ∧ (a < 58 ∨ 62 < a) → h112 a = h a := fun a ca => Eq.trans (y114 a (by omega)) (Eq.trans (by show (ov_up (ov_up h85 59 ((pt_nm t m (pt_nt t m p)) + (6 * (pt_nm t m (pt_nt t m (pt_nt t m p))))) (pt_kt t m (pt_nt t m (pt_nt t m (pt_nt t m p))))) 58 9 (ov_w ((A 7) + 1))) a = h85 a; rw [ov_up_ne (by omega), ov_up_ne (by omega)]) (fr99 a ca))
              have e129 : h112 3 1 = 58 := Eq.trans (congrFun (show h112 3 = (ov_up (ov_up h85 59 ((pt_nm t m (pt_nt t m p)) + (6 * (pt_nm t m (pt_nt t m (pt_nt t m p))))) (pt_kt t m (pt_nt t m (pt_nt t m (pt_nt t m p))))) 58 9 (ov_w ((A 7) + 1))) 3 from y114 3 (by decide)) 1) e100
              have y115_ : pt_TC t m (h112 1) (pt_nt t m (pt_nt t m (pt_nt t m (pt_nt t m p)))) := y115
              have g130 := pt_TC_b y115_
              have g131 := pt_nt_le (t := t) (n := m) (p := (pt_nt t m (pt_nt t m (pt_nt t m p)))) (by omega)
              show ov_R u d ov_m58 135 [(0, ov_r 3), (1, ov_i ((pt_nm t m (pt_nt t m p)) + (6 * (pt_nm t m (pt_nt t m (pt_nt t m p)))))), (2, ov_i (pt_kt t m (pt_nt t m (pt_nt t m (pt_nt t m p)))))] [] z111 h112 (P_fReader_readLight_3_k3_1_58 F z h t m p A)
              have kc : h112 59 ((pt_nm t m (pt_nt t m p)) + 6 * (pt_nm t m (pt_nt t m (pt_nt t m p)))) = (pt_kt t m (pt_nt t m (pt_nt t m (pt_nt t m p)))) := by rw [show h112 59 = (ov_rs (h 59) ((pt_nm t m (pt_nt t m p)) + (6 * (pt_nm t m (pt_nt t m (pt_nt t m p))))) (pt_kt t m (pt_nt t m (pt_nt t m (pt_nt t m p))))) from R121]; exact ov_rs_eq _ _ _
              have k10 : h112 58 10 = A 9 := by rw [show h112 58 = (ov_rs (h 58) 9 (ov_w ((A 7) + 1))) from R119, ov_rs_ne (by decide)]; exact pt_CR_10 cr
              have k9 : h112 58 9 = ov_w (A 7 + 1) := by rw [show h112 58 = (ov_rs (h 58) 9 (ov_w ((A 7) + 1))) from R119]; exact ov_rs_eq _ _ _
              have k0_ : ∀ k : Int, k ≠ 9 → k ≠ 10 → h112 58 k = h 58 k := fun k a _ => by rw [show h112 58 = (ov_rs (h 58) 9 (ov_w ((A 7) + 1))) from R119, ov_rs_ne a]
              refine ov_blk (ls2 := [(0, ov_r 3), (1, ov_i ((pt_nm t m (pt_nt t m p)) + (6 * (pt_nm t m (pt_nt t m (pt_nt t m p)))))), (2, ov_i (pt_kt t m (pt_nt t m (pt_nt t m (pt_nt t m p)))))]) (st2 := [ov_i ((pt_nm t m (pt_nt t m p)) + (6 * (pt_nm t m (pt_nt t m (pt_nt t m p))))), ov_r 3]) (pc2 := 137) b_58_135_2 rfl rfl ?_
              refine ov_cV (as := [ov_i ((pt_nm t m (pt_nt t m p)) + (6 * (pt_nm t m (pt_nt t m (pt_nt t m p)))))]) (st := []) (d2 := d - 1) d_58_137 lk_Reader_157 rfl (Nat.le_of_ble_eq_true rfl) (c := 6) (zb_3 I113) (zs_3 I113) ⟨by decide, rfl⟩ (by omega) (c_fReader_readRound_3_k3_1_58 t m (pt_nt t m (pt_nt t m (pt_nt t m (pt_nt t m p)))) (pt_kt t m (pt_nt t m (pt_nt t m (pt_nt t m p)))) (A 9) (d - 1) (by omega) U I113 (ov_kws hw (by decide +kernel)) ((pt_nm t m (pt_nt t m p)) + (6 * (pt_nm t m (pt_nt t m (pt_nt t m p))))) e129 (by omega) (by show 0 ≤ ((pt_nm t m (pt_nt t m p)) + (6 * (pt_nm t m (pt_nt t m (pt_nt t m p))))) ∧ ((pt_nm t m (pt_nt t m p)) + (6 * (pt_nm t m (pt_nt t m (pt_nt t m p))))) ≤ 53; omega) (by show (h112 59 (((pt_nm t m (pt_nt t m p)) + (6 * (pt_nm t m (pt_nt t m (pt_nt t m p))))))) = (pt_kt t m (pt_nt t m (pt_nt t m (pt_nt t m p)))); omega) (by show (h112 58 10) = (A 9); omega) (by show 0 ≤ (pt_kt t m (pt_nt t m (pt_nt t m (pt_nt t m p)))); omega) (by show 1 ≤ (A 9) ∧ (A 9) ≤ 1200; omega) (show h112 2 = t from Eq.trans (show h112 2 = h 2 from E116) et) y115_) ?_
              rintro _ z133 h134 ⟨v132, rfl, I135, y136, y137⟩
              have E138 : h134 2 = h 2 := Eq.trans (y136 2 (by decide)) (show h112 2 = h 2 from E116)
              have E139 : h134 59 = h112 59 := Eq.trans (y136 59 (by decide)) (show h112 59 = h112 59 from rfl)
              have E140 : h134 61 = h 61 := Eq.trans (y136 61 (by decide)) (show h112 61 = h 61 from E123)
              have E141 : h134 62 = h 62 := Eq.trans (y136 62 (by decide)) (show h112 62 = h 62 from E124)
              have E142 : h134 63 = h 63 := Eq.trans (y136 63 (by decide)) (show h112 63 = h 63 from E125)
              have E143 : h134 64 = h 64 := Eq.trans (y136 64 (by decide)) (show h112 64 = h 64 from E126)
              have E144 : h134 66 = h 66 := Eq.trans (y136 66 (by decide)) (show h112 66 = h 66 from E127)
              have fr145 : ∀ a : Int, a ≠ 1 ∧ a ≠ 3 ∧ (a < 58 ∨ 62 < a) → h134 a = h a := fun a ca => Eq.trans (y136 a (by omega)) (fr128 a ca)
              have cf147 : h112 3 1 = h57 3 1 := congrFun E117 1
              have cf148 : h112 3 2 = h57 3 2 := congrFun E117 2
              rcases y137 with ⟨rfl, f149⟩ | ⟨rfl, f150, y151, y152, y153⟩
              · skip
                show ov_R u d ov_m58 140 [(0, ov_r 3), (1, ov_i ((pt_nm t m (pt_nt t m p)) + (6 * (pt_nm t m (pt_nt t m (pt_nt t m p)))))), (2, ov_i (pt_kt t m (pt_nt t m (pt_nt t m (pt_nt t m p)))))] [ov_i 0] z133 h134 (P_fReader_readLight_3_k3_1_58 F z h t m p A)
                have f154 : (h134 3 2) = (pt_rdF t m (pt_kt t m (pt_nt t m (pt_nt t m (pt_nt t m p)))) (A 9) (pt_nt t m (pt_nt t m (pt_nt t m (pt_nt t m p))))) ∧ 1 ≤ (pt_rdF t m (pt_kt t m (pt_nt t m (pt_nt t m (pt_nt t m p)))) (A 9) (pt_nt t m (pt_nt t m (pt_nt t m (pt_nt t m p))))) ∧ (h134 3 1) = (h112 3 1) := f149
                clear f149
                have e146 : h134 3 1 = 58 := by omega
                refine ov_ifeq (tgt := 164) d_58_140 (by decide) (by omega) (fun c155 => ?_) (fun c155 => ?_)
                · skip
                  refine ov_blk (ls2 := [(0, ov_r 3), (1, ov_i ((pt_nm t m (pt_nt t m p)) + (6 * (pt_nm t m (pt_nt t m (pt_nt t m p)))))), (2, ov_i (pt_kt t m (pt_nt t m (pt_nt t m (pt_nt t m p)))))]) (st2 := [ov_i 0]) (pc2 := 165) b_58_164_1 rfl rfl ?_
                  have hF : (pt_liF t m A p) = (h134 3 2) := by unfold pt_liF; (repeat' split) <;> omega
                  exact ov_retz (st := []) d_58_165 rfl (by omega) ⟨_, rfl, I135, (fun a ca => (fr145 a ca)), (Or.inl ⟨rfl, (by show (h134 3 2) = (pt_liF t m A p) ∧ 1 ≤ (pt_liF t m A p) ∧ (h134 3 1) = (h 3 1); omega)⟩)⟩
                · omega
              · skip
                show ov_R u d ov_m58 140 [(0, ov_r 3), (1, ov_i ((pt_nm t m (pt_nt t m p)) + (6 * (pt_nm t m (pt_nt t m (pt_nt t m p)))))), (2, ov_i (pt_kt t m (pt_nt t m (pt_nt t m (pt_nt t m p)))))] [ov_i 1] z133 h134 (P_fReader_readLight_3_k3_1_58 F z h t m p A)
                have f156 : (pt_rdF t m (pt_kt t m (pt_nt t m (pt_nt t m (pt_nt t m p)))) (A 9) (pt_nt t m (pt_nt t m (pt_nt t m (pt_nt t m p))))) = 0 ∧ pt_ty t m (pt_nt t m (pt_nt t m (pt_nt t m (pt_nt t m (pt_nt t m p))))) = 3 ∧ 1 ≤ (pt_nm t m (pt_nt t m (pt_nt t m (pt_nt t m (pt_nt t m (pt_nt t m p)))))) ∧ (pt_nm t m (pt_nt t m (pt_nt t m (pt_nt t m (pt_nt t m (pt_nt t m p)))))) ≤ 60 ∧ (h134 58 10) = pt_rdC (pt_kt t m (pt_nt t m (pt_nt t m (pt_nt t m p)))) (A 9) (pt_nm t m (pt_nt t m (pt_nt t m (pt_nt t m (pt_nt t m (pt_nt t m p)))))) ∧ 1 ≤ pt_rdC (pt_kt t m (pt_nt t m (pt_nt t m (pt_nt t m p)))) (A 9) (pt_nm t m (pt_nt t m (pt_nt t m (pt_nt t m (pt_nt t m (pt_nt t m p)))))) ∧ pt_rdC (pt_kt t m (pt_nt t m (pt_nt t m (pt_nt t m p)))) (A 9) (pt_nm t m (pt_nt t m (pt_nt t m (pt_nt t m (pt_nt t m (pt_nt t m p)))))) ≤ 1200 ∧ (h134 3 1) = (h112 3 1) ∧ (h134 3 2) = (h112 3 2) := f150
                clear f150
                have e146 : h134 3 1 = 58 := by omega
                have y151_ : pt_TC t m (h134 1) (pt_nt t m (pt_nt t m (pt_nt t m (pt_nt t m (pt_nt t m (pt_nt t m p)))))) := y151
                have g157 := pt_TC_b y151_
                have g158 := pt_nt_le (t := t) (n := m) (p := (pt_nt t m (pt_nt t m (pt_nt t m (pt_nt t m p))))) (by omega)
                have g159 := pt_nt_le (t := t) (n := m) (p := (pt_nt t m (pt_nt t m (pt_nt t m (pt_nt t m (pt_nt t m p)))))) (by omega)
                have y152_ : (h134 60) = ov_rs (h112 60) ((pt_nm t m (pt_nt t m p)) + (6 * (pt_nm t m (pt_nt t m (pt_nt t m p))))) (pt_nm t m (pt_nt t m (pt_nt t m (pt_nt t m (pt_nt t m (pt_nt t m p)))))) := y152
                have y153_ : ∀ k : Int, k ≠ 10 → (h134 58) k = (h112 58) k := y153
                have m0 : ∀ k : Int, k ≠ 9 → k ≠ 10 → h134 58 k = h 58 k := fun k a c => Eq.trans (y153_ k c) (k0_ k a c)
                have m9 : h134 58 9 = ov_w (A 7 + 1) := Eq.trans (y153_ 9 (by decide)) k9
                have m10 : h134 58 10 = pt_rdC (pt_kt t m (pt_nt t m (pt_nt t m (pt_nt t m p)))) (A 9) (pt_nm t m (pt_nt t m (pt_nt t m (pt_nt t m (pt_nt t m (pt_nt t m p)))))) := by omega
                have mc : h134 60 ((pt_nm t m (pt_nt t m p)) + 6 * (pt_nm t m (pt_nt t m (pt_nt t m p)))) = (pt_nm t m (pt_nt t m (pt_nt t m (pt_nt t m (pt_nt t m (pt_nt t m p)))))) := by rw [y152_]; exact ov_rs_eq _ _ _
                refine ov_ifeq (tgt := 164) d_58_140 (by decide) (by omega) (fun c160 => ?_) (fun c160 => ?_)
                · omega
                · skip
                  refine ov_blk (ls2 := [(0, ov_r 3), (1, ov_i ((pt_nm t m (pt_nt t m p)) + (6 * (pt_nm t m (pt_nt t m (pt_nt t m p)))))), (2, ov_i (pt_kt t m (pt_nt t m (pt_nt t m (pt_nt t m p)))))]) (st2 := [ov_i ((pt_nm t m (pt_nt t m p)) + (6 * (pt_nm t m (pt_nt t m (pt_nt t m p))))), ov_r 3]) (pc2 := 145) b_58_143_2 rfl rfl ?_
                  refine ov_cV (as := [ov_i ((pt_nm t m (pt_nt t m p)) + (6 * (pt_nm t m (pt_nt t m (pt_nt t m p)))))]) (st := []) (d2 := d - 1) d_58_145 lk_Reader_160 rfl (Nat.le_of_ble_eq_true rfl) (c := 6) (zb_3 I135) (zs_3 I135) ⟨by decide, rfl⟩ (by omega) (c_fReader_readGreen_3_k3_1_58 t m (pt_nt t m (pt_nt t m (pt_nt t m (pt_nt t m (pt_nt t m (pt_nt t m p)))))) (pt_nm t m (pt_nt t m (pt_nt t m (pt_nt t m (pt_nt t m (pt_nt t m p)))))) (d - 1) (by omega) U I135 (ov_kws hw (by decide +kernel)) ((pt_nm t m (pt_nt t m p)) + (6 * (pt_nm t m (pt_nt t m (pt_nt t m p))))) e146 (by omega) (by show 0 ≤ ((pt_nm t m (pt_nt t m p)) + (6 * (pt_nm t m (pt_nt t m (pt_nt t m p))))) ∧ ((pt_nm t m (pt_nt t m p)) + (6 * (pt_nm t m (pt_nt t m (pt_nt t m p))))) ≤ 53; omega) (by show (h134 60 (((pt_nm t m (pt_nt t m p)) + (6 * (pt_nm t m (pt_nt t m (pt_nt t m p))))))) = (pt_nm t m (pt_nt t m (pt_nt t m (pt_nt t m (pt_nt t m (pt_nt t m p)))))); omega) (by show 1 ≤ (pt_nm t m (pt_nt t m (pt_nt t m (pt_nt t m (pt_nt t m (pt_nt t m p)))))) ∧ (pt_nm t m (pt_nt t m (pt_nt t m (pt_nt t m (pt_nt t m (pt_nt t m p)))))) ≤ 60; omega) (show h134 2 = t from Eq.trans (show h134 2 = h 2 from E138) et) y151_) ?_
                  rintro _ z162 h163 ⟨v161, rfl, I164, y165, y166⟩
                  have E167 : h163 2 = h 2 := Eq.trans (y165 2 (by decide)) (show h134 2 = h 2 from E138)
                  have E168 : h163 58 = h134 58 := Eq.trans (y165 58 (by decide)) (show h134 58 = h134 58 from rfl)
                  have E169 : h163 59 = h112 59 := Eq.trans (y165 59 (by decide)) (show h134 59 = h112 59 from E139)
                  have E170 : h163 60 = h134 60 := Eq.trans (y165 60 (by decide)) (show h134 60 = h134 60 from rfl)
                  have E171 : h163 63 = h 63 := Eq.trans (y165 63 (by decide)) (show h134 63 = h 63 from E142)
                  have E172 : h163 64 = h 64 := Eq.trans (y165 64 (by decide)) (show h134 64 = h 64 from E143)
                  have E173 : h163 66 = h 66 := Eq.trans (y165 66 (by decide)) (show h134 66 = h 66 from E144)
                  have fr174 : ∀ a : Int, a ≠ 1 ∧ a ≠ 3 ∧ (a < 58 ∨ 62 < a) → h163 a = h a := fun a ca => Eq.trans (y165 a (by omega)) (fr145 a ca)
                  rcases y166 with ⟨rfl, f176⟩ | ⟨rfl, f177, y178, y179, y180⟩
                  · skip
                    show ov_R u d ov_m58 148 [(0, ov_r 3), (1, ov_i ((pt_nm t m (pt_nt t m p)) + (6 * (pt_nm t m (pt_nt t m (pt_nt t m p)))))), (2, ov_i (pt_kt t m (pt_nt t m (pt_nt t m (pt_nt t m p)))))] [ov_i 0] z162 h163 (P_fReader_readLight_3_k3_1_58 F z h t m p A)
                    have f181 : (h163 3 2) = (pt_grF t m (pt_nm t m (pt_nt t m (pt_nt t m (pt_nt t m (pt_nt t m (pt_nt t m p)))))) (pt_nt t m (pt_nt t m (pt_nt t m (pt_nt t m (pt_nt t m (pt_nt t m p))))))) ∧ 1 ≤ (pt_grF t m (pt_nm t m (pt_nt t m (pt_nt t m (pt_nt t m (pt_nt t m (pt_nt t m p)))))) (pt_nt t m (pt_nt t m (pt_nt t m (pt_nt t m (pt_nt t m (pt_nt t m p))))))) ∧ (h163 3 1) = (h134 3 1) := f176
                    clear f176
                    have e175 : h163 3 1 = 58 := by omega
                    refine ov_ifeq (tgt := 164) d_58_148 (by decide) (by omega) (fun c182 => ?_) (fun c182 => ?_)
                    · skip
                      refine ov_blk (ls2 := [(0, ov_r 3), (1, ov_i ((pt_nm t m (pt_nt t m p)) + (6 * (pt_nm t m (pt_nt t m (pt_nt t m p)))))), (2, ov_i (pt_kt t m (pt_nt t m (pt_nt t m (pt_nt t m p)))))]) (st2 := [ov_i 0]) (pc2 := 165) b_58_164_1 rfl rfl ?_
                      have hF : (pt_liF t m A p) = (h163 3 2) := by unfold pt_liF; (repeat' split) <;> omega
                      exact ov_retz (st := []) d_58_165 rfl (by omega) ⟨_, rfl, I164, (fun a ca => (fr174 a ca)), (Or.inl ⟨rfl, (by show (h163 3 2) = (pt_liF t m A p) ∧ 1 ≤ (pt_liF t m A p) ∧ (h163 3 1) = (h 3 1); omega)⟩)⟩
                    · omega
                  · skip
                    show ov_R u d ov_m58 148 [(0, ov_r 3), (1, ov_i ((pt_nm t m (pt_nt t m p)) + (6 * (pt_nm t m (pt_nt t m (pt_nt t m p)))))), (2, ov_i (pt_kt t m (pt_nt t m (pt_nt t m (pt_nt t m p)))))] [ov_i 1] z162 h163 (P_fReader_readLight_3_k3_1_58 F z h t m p A)
                    have f183 : (pt_grF t m (pt_nm t m (pt_nt t m (pt_nt t m (pt_nt t m (pt_nt t m (pt_nt t m p)))))) (pt_nt t m (pt_nt t m (pt_nt t m (pt_nt t m (pt_nt t m (pt_nt t m p))))))) = 0 ∧ (h163 3 1) = (h134 3 1) ∧ (h163 3 2) = (h134 3 2) := f177
                    clear f177
                    have e175 : h163 3 1 = 58 := by omega
                    have y178_ : pt_TC t m (h163 1) (pt_nt t m (pt_nt t m (pt_nt t m (pt_nt t m (pt_nt t m (pt_nt t m (pt_nt t m (pt_nt t m (pt_nt t m (pt_nt t m p)))))))))) := y178
                    have g184 := pt_TC_b y178_
                    have g185 := pt_nt_le (t := t) (n := m) (p := (pt_nt t m (pt_nt t m (pt_nt t m (pt_nt t m (pt_nt t m (pt_nt t m p))))))) (by omega)
                    have g186 := pt_nt_le (t := t) (n := m) (p := (pt_nt t m (pt_nt t m (pt_nt t m (pt_nt t m (pt_nt t m (pt_nt t m (pt_nt t m p)))))))) (by omega)
                    have g187 := pt_nt_le (t := t) (n := m) (p := (pt_nt t m (pt_nt t m (pt_nt t m (pt_nt t m (pt_nt t m (pt_nt t m (pt_nt t m (pt_nt t m p))))))))) (by omega)
                    have g188 := pt_nt_le (t := t) (n := m) (p := (pt_nt t m (pt_nt t m (pt_nt t m (pt_nt t m (pt_nt t m (pt_nt t m (pt_nt t m (pt_nt t m (pt_nt t m p)))))))))) (by omega)
                    have y179_ : (h163 61) = ov_rs (h134 61) ((pt_nm t m (pt_nt t m p)) + (6 * (pt_nm t m (pt_nt t m (pt_nt t m p))))) (pt_nm t m (pt_nt t m (pt_nt t m (pt_nt t m (pt_nt t m (pt_nt t m (pt_nt t m (pt_nt t m p)))))))) := y179
                    have y180_ : (h163 62) = ov_rs (h134 62) ((pt_nm t m (pt_nt t m p)) + (6 * (pt_nm t m (pt_nt t m (pt_nt t m p))))) (pt_nm t m (pt_nt t m (pt_nt t m (pt_nt t m (pt_nt t m (pt_nt t m (pt_nt t m (pt_nt t m (pt_nt t m (pt_nt t m p)))))))))) := y180
                    refine ov_ifeq (tgt := 164) d_58_148 (by decide) (by omega) (fun c189 => ?_) (fun c189 => ?_)
                    · omega
                    · skip
                      refine ov_blk (ls2 := [(0, ov_r 3), (1, ov_i ((pt_nm t m (pt_nt t m p)) + (6 * (pt_nm t m (pt_nt t m (pt_nt t m p)))))), (2, ov_i (pt_kt t m (pt_nt t m (pt_nt t m (pt_nt t m p)))))]) (st2 := [ov_i 59, ov_r 3]) (pc2 := 154) b_58_151_2 rfl rfl ?_
                      refine ov_cV (as := [ov_i 59]) (st := []) (d2 := d - 1) d_58_154 lk_Reader_92 rfl (Nat.le_of_ble_eq_true rfl) (c := 6) (zb_3 I164) (zs_3 I164) ⟨by decide, rfl⟩ (by omega) (c_fReader_takeSign_3 t m (pt_nt t m (pt_nt t m (pt_nt t m (pt_nt t m (pt_nt t m (pt_nt t m (pt_nt t m (pt_nt t m (pt_nt t m (pt_nt t m p)))))))))) (d - 1) (by omega) U I164 (ov_kws hw (by decide +kernel)) 59 (by omega) (show h163 2 = t from Eq.trans (show h163 2 = h 2 from E167) et) y178_) ?_
                      rintro _ z191 h192 ⟨v190, rfl, I193, y194, y195⟩
                      have E196 : h192 2 = h 2 := Eq.trans (y194 2 (by decide)) (show h163 2 = h 2 from E167)
                      have E197 : h192 58 = h134 58 := Eq.trans (y194 58 (by decide)) (show h163 58 = h134 58 from E168)
                      have E198 : h192 59 = h112 59 := Eq.trans (y194 59 (by decide)) (show h163 59 = h112 59 from E169)
                      have E199 : h192 60 = h134 60 := Eq.trans (y194 60 (by decide)) (show h163 60 = h134 60 from E170)
                      have E200 : h192 61 = h163 61 := Eq.trans (y194 61 (by decide)) (show h163 61 = h163 61 from rfl)
                      have E201 : h192 62 = h163 62 := Eq.trans (y194 62 (by decide)) (show h163 62 = h163 62 from rfl)
                      have E202 : h192 63 = h 63 := Eq.trans (y194 63 (by decide)) (show h163 63 = h 63 from E171)
                      have E203 : h192 64 = h 64 := Eq.trans (y194 64 (by decide)) (show h163 64 = h 64 from E172)
                      have E204 : h192 66 = h 66 := Eq.trans (y194 66 (by decide)) (show h163 66 = h 66 from E173)
                      have fr205 : ∀ a : Int, a ≠ 1 ∧ a ≠ 3 ∧ (a < 58 ∨ 62 < a) → h192 a = h a := fun a ca => Eq.trans (y194 a (by omega)) (fr174 a ca)
                      rcases y195 with ⟨rfl, f207⟩ | ⟨rfl, f208, y209⟩
                      · skip
                        show ov_R u d ov_m58 157 [(0, ov_r 3), (1, ov_i ((pt_nm t m (pt_nt t m p)) + (6 * (pt_nm t m (pt_nt t m (pt_nt t m p)))))), (2, ov_i (pt_kt t m (pt_nt t m (pt_nt t m (pt_nt t m p)))))] [ov_i 0] z191 h192 (P_fReader_readLight_3_k3_1_58 F z h t m p A)
                        have f210 : (h192 3 2) = (pt_fS t m (59 : Int) (pt_nt t m (pt_nt t m (pt_nt t m (pt_nt t m (pt_nt t m (pt_nt t m (pt_nt t m (pt_nt t m (pt_nt t m (pt_nt t m p))))))))))) ∧ 1 ≤ (pt_fS t m (59 : Int) (pt_nt t m (pt_nt t m (pt_nt t m (pt_nt t m (pt_nt t m (pt_nt t m (pt_nt t m (pt_nt t m (pt_nt t m (pt_nt t m p))))))))))) ∧ (h192 3 2) = 1 + 16 * (pt_nt t m (pt_nt t m (pt_nt t m (pt_nt t m (pt_nt t m (pt_nt t m (pt_nt t m (pt_nt t m (pt_nt t m (pt_nt t m p)))))))))) ∧ pt_is t m (pt_nt t m (pt_nt t m (pt_nt t m (pt_nt t m (pt_nt t m (pt_nt t m (pt_nt t m (pt_nt t m (pt_nt t m (pt_nt t m p)))))))))) (59 : Int) = 0 ∧ (h192 3 1) = (h163 3 1) := f207
                        clear f207
                        have e206 : h192 3 1 = 58 := by omega
                        refine ov_ifeq (tgt := 164) d_58_157 (by decide) (by omega) (fun c211 => ?_) (fun c211 => ?_)
                        · skip
                          refine ov_blk (ls2 := [(0, ov_r 3), (1, ov_i ((pt_nm t m (pt_nt t m p)) + (6 * (pt_nm t m (pt_nt t m (pt_nt t m p)))))), (2, ov_i (pt_kt t m (pt_nt t m (pt_nt t m (pt_nt t m p)))))]) (st2 := [ov_i 0]) (pc2 := 165) b_58_164_1 rfl rfl ?_
                          have hF : (pt_liF t m A p) = 0 := by unfold pt_liF; (repeat' split) <;> omega
                          exact ov_retz (st := []) d_58_165 rfl (by omega) ⟨_, rfl, I193, (fun a ca => (fr205 a ca)), (Or.inr (Or.inl ⟨rfl, (by show (pt_liF t m A p) = 0 ∧ (pt_is t m (pt_nt t m (pt_nt t m (pt_nt t m (pt_nt t m (pt_nt t m (pt_nt t m (pt_nt t m (pt_nt t m (pt_nt t m (pt_nt t m p)))))))))) 59) = 0 ∧ (h192 3 2) = 1 + 16 * (pt_nt t m (pt_nt t m (pt_nt t m (pt_nt t m (pt_nt t m (pt_nt t m (pt_nt t m (pt_nt t m (pt_nt t m (pt_nt t m p)))))))))) ∧ 0 ≤ (pt_nt t m (pt_nt t m (pt_nt t m (pt_nt t m (pt_nt t m (pt_nt t m (pt_nt t m (pt_nt t m (pt_nt t m (pt_nt t m p)))))))))) ∧ (h192 3 1) = (h 3 1); omega)⟩))⟩
                        · omega
                      · skip
                        show ov_R u d ov_m58 157 [(0, ov_r 3), (1, ov_i ((pt_nm t m (pt_nt t m p)) + (6 * (pt_nm t m (pt_nt t m (pt_nt t m p)))))), (2, ov_i (pt_kt t m (pt_nt t m (pt_nt t m (pt_nt t m p)))))] [ov_i 1] z191 h192 (P_fReader_readLight_3_k3_1_58 F z h t m p A)
                        have f212 : (pt_fS t m (59 : Int) (pt_nt t m (pt_nt t m (pt_nt t m (pt_nt t m (pt_nt t m (pt_nt t m (pt_nt t m (pt_nt t m (pt_nt t m (pt_nt t m p))))))))))) = 0 ∧ pt_is t m (pt_nt t m (pt_nt t m (pt_nt t m (pt_nt t m (pt_nt t m (pt_nt t m (pt_nt t m (pt_nt t m (pt_nt t m (pt_nt t m p)))))))))) (59 : Int) = 1 ∧ (h192 3 1) = (h163 3 1) ∧ (h192 3 2) = (h163 3 2) := f208
                        clear f208
                        have e206 : h192 3 1 = 58 := by omega
                        have y209_ : pt_TC t m (h192 1) (pt_nt t m (pt_nt t m (pt_nt t m (pt_nt t m (pt_nt t m (pt_nt t m (pt_nt t m (pt_nt t m (pt_nt t m (pt_nt t m (pt_nt t m p))))))))))) := y209
                        have g213 := pt_TC_b y209_
                        have g214 := pt_nt_le (t := t) (n := m) (p := (pt_nt t m (pt_nt t m (pt_nt t m (pt_nt t m (pt_nt t m (pt_nt t m (pt_nt t m (pt_nt t m (pt_nt t m (pt_nt t m p))))))))))) (by omega)
                        refine ov_ifeq (tgt := 164) d_58_157 (by decide) (by omega) (fun c215 => ?_) (fun c215 => ?_)
                        · omega
                        · skip
                          refine ov_blk (ls2 := [(0, ov_r 3), (1, ov_i ((pt_nm t m (pt_nt t m p)) + (6 * (pt_nm t m (pt_nt t m (pt_nt t m p)))))), (2, ov_i (pt_kt t m (pt_nt t m (pt_nt t m (pt_nt t m p)))))]) (st2 := [ov_i 1]) (pc2 := 161) b_58_160_1 rfl rfl ?_
                          refine ov_goto (tgt := 165) d_58_161 (by decide) ?_
                          have hF : (pt_liF t m A p) = 0 := by unfold pt_liF; (repeat' split) <;> omega
                          exact ov_retz (st := []) d_58_165 rfl (by omega) ⟨_, rfl, I193, (fun a ca => (fr205 a ca)), (Or.inr (Or.inr ⟨rfl, (by show (pt_liF t m A p) = 0 ∧ (pt_is t m (pt_nt t m (pt_nt t m (pt_nt t m (pt_nt t m (pt_nt t m (pt_nt t m (pt_nt t m (pt_nt t m (pt_nt t m (pt_nt t m p)))))))))) 59) = 1 ∧ (h192 3 1) = (h 3 1) ∧ (h192 3 2) = (h 3 2); omega), y209_, (by rw [show h192 59 = (ov_rs (h 59) ((pt_nm t m (pt_nt t m p)) + (6 * (pt_nm t m (pt_nt t m (pt_nt t m p))))) (pt_kt t m (pt_nt t m (pt_nt t m (pt_nt t m p))))) from (Eq.trans E198 R121), show h192 60 = (ov_rs (h 60) ((pt_nm t m (pt_nt t m p)) + 6 * (pt_nm t m (pt_nt t m (pt_nt t m p)))) (pt_nm t m (pt_nt t m (pt_nt t m (pt_nt t m (pt_nt t m (pt_nt t m p))))))) from (Eq.trans E199 (Eq.trans y152_ (congrArg (fun f => ov_rs f ((pt_nm t m (pt_nt t m p)) + 6 * (pt_nm t m (pt_nt t m (pt_nt t m p)))) (pt_nm t m (pt_nt t m (pt_nt t m (pt_nt t m (pt_nt t m (pt_nt t m p))))))) E122))), show h192 61 = (ov_rs (h 61) ((pt_nm t m (pt_nt t m p)) + 6 * (pt_nm t m (pt_nt t m (pt_nt t m p)))) (pt_nm t m (pt_nt t m (pt_nt t m (pt_nt t m (pt_nt t m (pt_nt t m (pt_nt t m (pt_nt t m p))))))))) from (Eq.trans E200 (Eq.trans y179_ (congrArg (fun f => ov_rs f ((pt_nm t m (pt_nt t m p)) + 6 * (pt_nm t m (pt_nt t m (pt_nt t m p)))) (pt_nm t m (pt_nt t m (pt_nt t m (pt_nt t m (pt_nt t m (pt_nt t m (pt_nt t m (pt_nt t m p))))))))) E140))), show h192 62 = (ov_rs (h 62) ((pt_nm t m (pt_nt t m p)) + 6 * (pt_nm t m (pt_nt t m (pt_nt t m p)))) (pt_nm t m (pt_nt t m (pt_nt t m (pt_nt t m (pt_nt t m (pt_nt t m (pt_nt t m (pt_nt t m (pt_nt t m (pt_nt t m p))))))))))) from (Eq.trans E201 (Eq.trans y180_ (congrArg (fun f => ov_rs f ((pt_nm t m (pt_nt t m p)) + 6 * (pt_nm t m (pt_nt t m (pt_nt t m p)))) (pt_nm t m (pt_nt t m (pt_nt t m (pt_nt t m (pt_nt t m (pt_nt t m (pt_nt t m (pt_nt t m (pt_nt t m (pt_nt t m p))))))))))) E141))), show h192 63 = (h 63) from E202, show h192 64 = (h 64) from E203, show h192 66 = (h 66) from E204, show h192 58 = h134 58 from E197]; exact pt_CR_light cr (by omega) (by omega) (by omega) m0 m9 m10)⟩))⟩
            · skip
              refine ov_blk (ls2 := [(0, ov_r 3), (1, ov_i ((pt_nm t m (pt_nt t m p)) + (6 * (pt_nm t m (pt_nt t m (pt_nt t m p)))))), (2, ov_i (pt_kt t m (pt_nt t m (pt_nt t m (pt_nt t m p)))))]) (st2 := [ov_i 1, ov_r 3]) (pc2 := 101) b_58_99_2 rfl rfl ?_
              refine ov_cV (as := [ov_i 1]) (st := []) (d2 := d - 1) d_58_101 lk_Reader_58 rfl (Nat.le_of_ble_eq_true rfl) (c := 6) (zb_3 I86) (zs_3 I86) ⟨by decide, rfl⟩ (by omega) (c_fReader_fail_3 t m (pt_nt t m (pt_nt t m (pt_nt t m p))) (d - 1) (by omega) U I86 (ov_kws hw (by decide +kernel)) 1 (by omega) (by show 1 ≤ (1 : Int) ∧ (1 : Int) ≤ 5; omega) (show h85 2 = t from Eq.trans (show h85 2 = h 2 from E89) et) y88_) ?_
              rintro _ z217 h218 ⟨v216, rfl, I219, y220, y221⟩
              have E222 : h218 1 = h85 1 := Eq.trans (y220 1 (by decide)) (show h85 1 = h85 1 from rfl)
              have E223 : h218 2 = h 2 := Eq.trans (y220 2 (by decide)) (show h85 2 = h 2 from E89)
              have E224 : h218 58 = h 58 := Eq.trans (y220 58 (by decide)) (show h85 58 = h 58 from E91)
              have E225 : h218 59 = h 59 := Eq.trans (y220 59 (by decide)) (show h85 59 = h 59 from E92)
              have E226 : h218 60 = h 60 := Eq.trans (y220 60 (by decide)) (show h85 60 = h 60 from E93)
              have E227 : h218 61 = h 61 := Eq.trans (y220 61 (by decide)) (show h85 61 = h 61 from E94)
              have E228 : h218 62 = h 62 := Eq.trans (y220 62 (by decide)) (show h85 62 = h 62 from E95)
              have E229 : h218 63 = h 63 := Eq.trans (y220 63 (by decide)) (show h85 63 = h 63 from E96)
              have E230 : h218 64 = h 64 := Eq.trans (y220 64 (by decide)) (show h85 64 = h 64 from E97)
              have E231 : h218 66 = h 66 := Eq.trans (y220 66 (by decide)) (show h85 66 = h 66 from E98)
              have fr232 : ∀ a : Int, a ≠ 1 ∧ a ≠ 3 ∧ (a < 58 ∨ 62 < a) → h218 a = h a := fun a ca => Eq.trans (y220 a (by omega)) (fr99 a ca)
              have cf234 : h85 3 1 = h57 3 1 := congrFun E90 1
              rcases y221 with ⟨rfl, f235⟩
              · skip
                show ov_R u d ov_m58 104 [(0, ov_r 3), (1, ov_i ((pt_nm t m (pt_nt t m p)) + (6 * (pt_nm t m (pt_nt t m (pt_nt t m p)))))), (2, ov_i (pt_kt t m (pt_nt t m (pt_nt t m (pt_nt t m p)))))] [ov_i 0] z217 h218 (P_fReader_readLight_3_k3_1_58 F z h t m p A)
                have f236 : (h218 3 2) = (1 : Int) + 16 * (pt_nt t m (pt_nt t m (pt_nt t m p))) ∧ (h218 3 1) = (h85 3 1) := f235
                clear f235
                have e233 : h218 3 1 = 58 := by omega
                have hF : (pt_liF t m A p) = (h218 3 2) := by unfold pt_liF; (repeat' split) <;> omega
                exact ov_retz (st := []) d_58_104 rfl (by omega) ⟨_, rfl, I219, (fun a ca => (fr232 a ca)), (Or.inl ⟨rfl, (by show (h218 3 2) = (pt_liF t m A p) ∧ 1 ≤ (pt_liF t m A p) ∧ (h218 3 1) = (h 3 1); omega)⟩)⟩
          · skip
            refine ov_blk (ls2 := [(0, ov_r 3), (1, ov_i ((pt_nm t m (pt_nt t m p)) + (6 * (pt_nm t m (pt_nt t m (pt_nt t m p))))))]) (st2 := [ov_i 3, ov_r 3]) (pc2 := 78) b_58_76_2 rfl rfl ?_
            refine ov_cV (as := [ov_i 3]) (st := []) (d2 := d - 1) d_58_78 lk_Reader_58 rfl (Nat.le_of_ble_eq_true rfl) (c := 6) (zb_3 I58) (zs_3 I58) ⟨by decide, rfl⟩ (by omega) (c_fReader_fail_3 t m (pt_nt t m (pt_nt t m p)) (d - 1) (by omega) U I58 (ov_kws hw (by decide +kernel)) 3 (by omega) (by show 1 ≤ (3 : Int) ∧ (3 : Int) ≤ 5; omega) (show h57 2 = t from Eq.trans (show h57 2 = h 2 from E62) et) (by rw [show h57 1 = h24 1 from E61]; exact y43_)) ?_
            rintro _ z238 h239 ⟨v237, rfl, I240, y241, y242⟩
            have E243 : h239 1 = h24 1 := Eq.trans (y241 1 (by decide)) (show h57 1 = h24 1 from E61)
            have E244 : h239 2 = h 2 := Eq.trans (y241 2 (by decide)) (show h57 2 = h 2 from E62)
            have E245 : h239 58 = h 58 := Eq.trans (y241 58 (by decide)) (show h57 58 = h 58 from E63)
            have E246 : h239 59 = h 59 := Eq.trans (y241 59 (by decide)) (show h57 59 = h 59 from E64)
            have E247 : h239 60 = h 60 := Eq.trans (y241 60 (by decide)) (show h57 60 = h 60 from E65)
            have E248 : h239 61 = h 61 := Eq.trans (y241 61 (by decide)) (show h57 61 = h 61 from E66)
            have E249 : h239 62 = h 62 := Eq.trans (y241 62 (by decide)) (show h57 62 = h 62 from E67)
            have E250 : h239 63 = h 63 := Eq.trans (y241 63 (by decide)) (show h57 63 = h 63 from E68)
            have E251 : h239 64 = h 64 := Eq.trans (y241 64 (by decide)) (show h57 64 = h 64 from E69)
            have E252 : h239 66 = h 66 := Eq.trans (y241 66 (by decide)) (show h57 66 = h 66 from E70)
            have fr253 : ∀ a : Int, a ≠ 1 ∧ a ≠ 3 ∧ (a < 58 ∨ 62 < a) → h239 a = h a := fun a ca => Eq.trans (y241 a (by omega)) (fr71 a ca)
            rcases y242 with ⟨rfl, f255⟩
            · skip
              show ov_R u d ov_m58 81 [(0, ov_r 3), (1, ov_i ((pt_nm t m (pt_nt t m p)) + (6 * (pt_nm t m (pt_nt t m (pt_nt t m p))))))] [ov_i 0] z238 h239 (P_fReader_readLight_3_k3_1_58 F z h t m p A)
              have f256 : (h239 3 2) = (3 : Int) + 16 * (pt_nt t m (pt_nt t m p)) ∧ (h239 3 1) = (h57 3 1) := f255
              clear f255
              have e254 : h239 3 1 = 58 := by omega
              have hF : (pt_liF t m A p) = (h239 3 2) := by unfold pt_liF; (repeat' split) <;> omega
              exact ov_retz (st := []) d_58_81 rfl (by omega) ⟨_, rfl, I240, (fun a ca => (fr253 a ca)), (Or.inl ⟨rfl, (by show (h239 3 2) = (pt_liF t m A p) ∧ 1 ≤ (pt_liF t m A p) ∧ (h239 3 1) = (h 3 1); omega)⟩)⟩
        · omega
    · omega

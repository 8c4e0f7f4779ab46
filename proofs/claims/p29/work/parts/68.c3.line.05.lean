abbrev P_fReader_readRound_3_k3_1_58 (F : ov_H) (z : ov_Z) (h : ov_H) (t : Int → Int) (m : Int) (p : Int) (kd : Int) (cm : Int) (c : Int) : Option ov_V → ov_Z → ov_H → Prop := fun r0 z' h' => ∃ r : Int, r0 = some (ov_i r) ∧ ov_I F z' h' ∧ (∀ a : Int, a ≠ 1 ∧ a ≠ 3 ∧ a ≠ 58 ∧ a ≠ 60 → h' a = h a) ∧ ((r = 0 ∧ ((h' 3 2) = (pt_rdF t m kd cm p) ∧ 1 ≤ (pt_rdF t m kd cm p) ∧ (h' 3 1) = (h 3 1))) ∨ (r = 1 ∧ ((pt_rdF t m kd cm p) = 0 ∧ pt_ty t m (pt_nt t m p) = 3 ∧ 1 ≤ (pt_nm t m (pt_nt t m p)) ∧ (pt_nm t m (pt_nt t m p)) ≤ 60 ∧ (h' 58 10) = pt_rdC kd cm (pt_nm t m (pt_nt t m p)) ∧ 1 ≤ pt_rdC kd cm (pt_nm t m (pt_nt t m p)) ∧ pt_rdC kd cm (pt_nm t m (pt_nt t m p)) ≤ 1200 ∧ (h' 3 1) = (h 3 1) ∧ (h' 3 2) = (h 3 2)) ∧ (pt_TC t m (h' 1) (pt_nt t m (pt_nt t m p))) ∧ ((h' 60) = ov_rs (h 60) c (pt_nm t m (pt_nt t m p))) ∧ (∀ k : Int, k ≠ 10 → (h' 58) k = (h 58) k)))
set_option maxHeartbeats 4000000 in
theorem c_fReader_readRound_3_k3_1_58 {u : ov_U} {F : ov_H} (t : Int → Int) (m : Int) (p : Int) (kd : Int) (cm : Int) {z : ov_Z} {h : ov_H} (d : Nat) (hd : 6 ≤ d) (U : ov_cap u) (I : ov_I F z h) (hw : ov_kw 1441151880758558730 F) (c : Int) (k0 : h 3 1 = 58) (g_c : ov_g c) (p0 : 0 ≤ c ∧ c ≤ 53) (p1 : (h 59 (c)) = kd) (p2 : (h 58 10) = cm) (p3 : 0 ≤ kd) (p4 : 1 ≤ cm ∧ cm ≤ 1200) (et : (h 2) = t) (tc : pt_TC t m (h 1) p) : ov_T u d ov_m60 [ov_r 3, ov_i c] z h (P_fReader_readRound_3_k3_1_58 F z h t m p kd cm c) := by
  refine ov_en rfl (Nat.le_of_ble_eq_true rfl) ?_
  show ov_R u d ov_m60 0 [(0, ov_r 3), (1, ov_i c)] [] z h (P_fReader_readRound_3_k3_1_58 F z h t m p kd cm c)
  have tb := pt_TC_b tc
  refine ov_blk (ls2 := [(0, ov_r 3), (1, ov_i c)]) (st2 := [ov_r 3]) (pc2 := 1) b_60_0_1 rfl rfl ?_
  refine ov_ldc2 (n := 491496238692) d_60_1 kc_Reader_163 ?_
  refine ov_cV (as := [ov_l 491496238692]) (st := []) (d2 := d - 1) d_60_4 lk_Reader_98 rfl (Nat.le_of_ble_eq_true rfl) (c := 6) (zb_3 I) (zs_3 I) ⟨by decide, rfl⟩ (by omega) (c_fReader_takeWord_3 t m p (d - 1) (by omega) U I (ov_kws hw (by decide +kernel)) 491496238692 (by show -9223372036854775808 ≤ (491496238692 : Int) ∧ (491496238692 : Int) ≤ 9223372036854775807; omega) (show h 2 = t from Eq.trans (show h 2 = h 2 from rfl) et) tc) ?_
  rintro _ z2 h3 ⟨v1, rfl, I4, y5, y6⟩
  have E7 : h3 2 = h 2 := Eq.trans (y5 2 (by decide)) (show h 2 = h 2 from rfl)
  have E8 : h3 58 = h 58 := Eq.trans (y5 58 (by decide)) (show h 58 = h 58 from rfl)
  have E9 : h3 59 = h 59 := Eq.trans (y5 59 (by decide)) (show h 59 = h 59 from rfl)
  have E10 : h3 60 = h 60 := Eq.trans (y5 60 (by decide)) (show h 60 = h 60 from rfl)
  have fr11 : ∀ a : Int, a ≠ 1 ∧ a ≠ 3 ∧ a ≠ 58 ∧ a ≠ 60 → h3 a = h a := fun a ca => Eq.trans (y5 a (by omega)) rfl
  rcases y6 with ⟨rfl, f13⟩ | ⟨rfl, f14, y15⟩
  · skip
    show ov_R u d ov_m60 7 [(0, ov_r 3), (1, ov_i c)] [ov_i 0] z2 h3 (P_fReader_readRound_3_k3_1_58 F z h t m p kd cm c)
    have f16 : (h3 3 2) = (pt_fW t m (491496238692 : Int) p) ∧ 1 ≤ (pt_fW t m (491496238692 : Int) p) ∧ pt_iw t m p (491496238692 : Int) = 0 ∧ (h3 3 1) = (h 3 1) := f13
    clear f13
    have e12 : h3 3 1 = 58 := by omega
    refine ov_ifeq (tgt := 20) d_60_7 (by decide) (by omega) (fun c17 => ?_) (fun c17 => ?_)
    · skip
      refine ov_blk (ls2 := [(0, ov_r 3), (1, ov_i c)]) (st2 := [ov_i 0]) (pc2 := 21) b_60_20_1 rfl rfl ?_
      have hF : (pt_rdF t m kd cm p) = (h3 3 2) := by unfold pt_rdF; (repeat' split) <;> omega
      have cf18 : h3 58 10 = h 58 10 := congrFun (E8) 10
      exact ov_retz (st := []) d_60_21 rfl (by omega) ⟨_, rfl, I4, (fun a ca => (fr11 a ca)), (Or.inl ⟨rfl, (by show (h3 3 2) = (pt_rdF t m kd cm p) ∧ 1 ≤ (pt_rdF t m kd cm p) ∧ (h3 3 1) = (h 3 1); omega)⟩)⟩
    · omega
  · skip
    show ov_R u d ov_m60 7 [(0, ov_r 3), (1, ov_i c)] [ov_i 1] z2 h3 (P_fReader_readRound_3_k3_1_58 F z h t m p kd cm c)
    have f19 : (pt_fW t m (491496238692 : Int) p) = 0 ∧ pt_iw t m p (491496238692 : Int) = 1 ∧ (h3 3 1) = (h 3 1) ∧ (h3 3 2) = (h 3 2) := f14
    clear f14
    have e12 : h3 3 1 = 58 := by omega
    have y15_ : pt_TC t m (h3 1) (pt_nt t m p) := y15
    have g20 := pt_TC_b y15_
    have g21 := pt_nt_le (t := t) (n := m) (p := p) (by omega)
    refine ov_ifeq (tgt := 20) d_60_7 (by decide) (by omega) (fun c22 => ?_) (fun c22 => ?_)
    · omega
    · skip
      refine ov_blk (ls2 := [(0, ov_r 3), (1, ov_i c)]) (st2 := [ov_i 60, ov_i 1, ov_r 3]) (pc2 := 14) b_60_10_3 rfl rfl ?_
      refine ov_cV (as := [ov_i 1, ov_i 60]) (st := []) (d2 := d - 1) d_60_14 lk_Reader_143 rfl (Nat.le_of_ble_eq_true rfl) (c := 6) (zb_3 I4) (zs_3 I4) ⟨by decide, rfl⟩ (by omega) (c_fReader_isNumber_3 t m (pt_nt t m p) (d - 1) (by omega) U I4 (ov_kws hw (by decide +kernel)) 1 60 (by omega) (by omega) (show h3 2 = t from Eq.trans (show h3 2 = h 2 from E7) et) y15_) ?_
      rintro _ z24 h25 ⟨v23, rfl, I26, y27, y28⟩
      have E29 : h25 1 = h3 1 := Eq.trans (y27 1 (by decide)) (show h3 1 = h3 1 from rfl)
      have E30 : h25 2 = h 2 := Eq.trans (y27 2 (by decide)) (show h3 2 = h 2 from E7)
      have E31 : h25 58 = h 58 := Eq.trans (y27 58 (by decide)) (show h3 58 = h 58 from E8)
      have E32 : h25 59 = h 59 := Eq.trans (y27 59 (by decide)) (show h3 59 = h 59 from E9)
      have E33 : h25 60 = h 60 := Eq.trans (y27 60 (by decide)) (show h3 60 = h 60 from E10)
      have fr34 : ∀ a : Int, a ≠ 1 ∧ a ≠ 3 ∧ a ≠ 58 ∧ a ≠ 60 → h25 a = h a := fun a ca => Eq.trans (y27 a (by omega)) (fr11 a ca)
      rcases y28 with ⟨rfl, f36⟩ | ⟨rfl, f37⟩
      · skip
        show ov_R u d ov_m60 17 [(0, ov_r 3), (1, ov_i c)] [ov_i 0] z24 h25 (P_fReader_readRound_3_k3_1_58 F z h t m p kd cm c)
        have f38 : (h25 3 2) = (pt_fN t m (1 : Int) (60 : Int) (pt_nt t m p)) ∧ 1 ≤ (pt_fN t m (1 : Int) (60 : Int) (pt_nt t m p)) ∧ (h25 3 1) = (h3 3 1) := f36
        clear f36
        have e35 : h25 3 1 = 58 := by omega
        refine ov_ifne (tgt := 22) d_60_17 (by decide) (by omega) (fun c39 => ?_) (fun c39 => ?_)
        · omega
        · skip
          refine ov_blk (ls2 := [(0, ov_r 3), (1, ov_i c)]) (st2 := [ov_i 0]) (pc2 := 21) b_60_20_1 rfl rfl ?_
          have hF : (pt_rdF t m kd cm p) = (h25 3 2) := by unfold pt_rdF; (repeat' split) <;> omega
          have cf40 : h25 58 10 = h 58 10 := congrFun (E31) 10
          exact ov_retz (st := []) d_60_21 rfl (by omega) ⟨_, rfl, I26, (fun a ca => (fr34 a ca)), (Or.inl ⟨rfl, (by show (h25 3 2) = (pt_rdF t m kd cm p) ∧ 1 ≤ (pt_rdF t m kd cm p) ∧ (h25 3 1) = (h 3 1); omega)⟩)⟩
      · skip
        show ov_R u d ov_m60 17 [(0, ov_r 3), (1, ov_i c)] [ov_i 1] z24 h25 (P_fReader_readRound_3_k3_1_58 F z h t m p kd cm c)
        have f41 : (pt_fN t m (1 : Int) (60 : Int) (pt_nt t m p)) = 0 ∧ pt_ty t m (pt_nt t m p) = 3 ∧ (1 : Int) ≤ (pt_nm t m (pt_nt t m p)) ∧ (pt_nm t m (pt_nt t m p)) ≤ (60 : Int) ∧ (h25 3 1) = (h3 3 1) ∧ (h25 3 2) = (h3 3 2) := f37
        clear f37
        have e35 : h25 3 1 = 58 := by omega
        refine ov_ifne (tgt := 22) d_60_17 (by decide) (by omega) (fun c42 => ?_) (fun c42 => ?_)
        · skip
          refine ov_blk (ls2 := [(0, ov_r 3), (1, ov_i c)]) (st2 := [ov_r 3]) (pc2 := 23) b_60_22_1 rfl rfl ?_
          refine ov_getf (v := ov_r 58) d_60_23 fl_Reader_15 (zb_3 I26) (zs_3 I26) (congrArg ov_r e35) ?_
          refine ov_getf (v := ov_r 60) d_60_26 fl_Reader_165 (zb_58 I26) (zs_58 I26) (congrArg ov_r (rg_58_3 I26)) ?_
          refine ov_blk (ls2 := [(0, ov_r 3), (1, ov_i c)]) (st2 := [ov_r 3, ov_i c, ov_r 60]) (pc2 := 31) b_60_29_2 rfl rfl ?_
          refine ov_getf (v := ov_r 1) d_60_31 fl_Reader_9 (zb_3 I26) (zs_3 I26) (congrArg ov_r (rg_3_0 I26)) ?_
          have e43 : h25 1 4 = (pt_nm t m (pt_nt t m p)) := Eq.trans (congrFun (show h25 1 = h3 1 from E29) 4) (pt_TC_n y15_ (by omega))
          refine ov_getf (v := ov_i (pt_nm t m (pt_nt t m p))) d_60_34 fl_Reader_146 (zb_1 I26) (zs_1 I26) (congrArg ov_i e43) ?_
          have g44 := rg_1_4 I26
          rw [e43] at g44
          refine ov_iast d_60_37 (zb_60 I26) (zs_60 I26) (by omega) ?_
          have I45 := ua_60 (k := c) (x := (pt_nm t m (pt_nt t m p))) I26 (by omega) (hw 60 (by decide +kernel))
          refine ov_blk (ls2 := [(0, ov_r 3), (1, ov_i c)]) (st2 := [ov_r 3]) (pc2 := 39) b_60_38_1 rfl rfl ?_
          refine ov_getf (v := ov_r 58) d_60_39 fl_Reader_15 (zb_3 I45) (zs_3 I45) (congrArg ov_r e35) ?_
          refine ov_blk (ls2 := [(0, ov_r 3), (1, ov_i c)]) (st2 := [ov_i c, ov_r 58]) (pc2 := 43) b_60_42_1 rfl rfl ?_
          have cf46 : h25 59 (c) = h 59 (c) := congrFun E32 (c)
          refine ov_cV (as := [ov_i c]) (st := []) (d2 := d - 1) d_60_43 lk_Reader_168 rfl (Nat.le_of_ble_eq_true rfl) (c := 9) (zb_58 I45) (zs_58 I45) ⟨by decide, rfl⟩ (by omega) (c_fTown_isTimed_58 kd (d - 1) (by omega) U I45 c (by omega) (by show 0 ≤ c ∧ c < 54; omega) (by show (h25 59 (c)) = kd; omega)) ?_
          rintro _ _ _ ⟨v47, rfl, rfl, rfl, y48⟩
          rcases y48 with ⟨rfl, f49⟩ | ⟨rfl, f50⟩
          · skip
            show ov_R u d ov_m60 46 [(0, ov_r 3), (1, ov_i c)] [ov_i 0] z24 (ov_up h25 60 c (pt_nm t m (pt_nt t m p))) (P_fReader_readRound_3_k3_1_58 F z h t m p kd cm c)
            have f51 : kd ≠ 0 ∧ kd ≠ 1 := f49
            clear f49
            refine ov_ifeq (tgt := 88) d_60_46 (by decide) (by omega) (fun c52 => ?_) (fun c52 => ?_)
            · skip
              refine ov_blk (ls2 := [(0, ov_r 3), (1, ov_i c)]) (st2 := [ov_r 3]) (pc2 := 89) b_60_88_1 rfl rfl ?_
              refine ov_getf (v := ov_r 1) d_60_89 fl_Reader_9 (zb_3 I45) (zs_3 I45) (congrArg ov_r (rg_3_0 I45)) ?_
              refine ov_cV (as := []) (st := []) (d2 := d - 1) d_60_92 lk_Reader_75 rfl (Nat.le_of_ble_eq_true rfl) (c := 8) (zb_1 I45) (zs_1 I45) ⟨by decide, rfl⟩ (by omega) (c_fTape_advance_1_t t m (pt_nt t m p) (d - 1) (by omega) U I45 (ov_kws hw (by decide +kernel)) (show (ov_up h25 60 c (pt_nm t m (pt_nt t m p))) 2 = t from Eq.trans (show (ov_up h25 60 c (pt_nm t m (pt_nt t m p))) 2 = h 2 from E30) et) (by rw [show (ov_up h25 60 c (pt_nm t m (pt_nt t m p))) 1 = h3 1 from E29]; exact y15_)) ?_
              rintro _ z53 h54 ⟨rfl, I55, y56, y57⟩
              have E58 : h54 2 = h 2 := Eq.trans (y56 2 (by decide)) (show (ov_up h25 60 c (pt_nm t m (pt_nt t m p))) 2 = h 2 from E30)
              have E59 : h54 3 = h25 3 := Eq.trans (y56 3 (by decide)) (show (ov_up h25 60 c (pt_nm t m (pt_nt t m p))) 3 = h25 3 from rfl)
              have E60 : h54 58 = h 58 := Eq.trans (y56 58 (by decide)) (show (ov_up h25 60 c (pt_nm t m (pt_nt t m p))) 58 = h 58 from E31)
              have E61 : h54 59 = h 59 := Eq.trans (y56 59 (by decide)) (show (ov_up h25 60 c (pt_nm t m (pt_nt t m p))) 59 = h 59 from E32)
              have R63 : h54 60 = (ov_rs (h 60) c (pt_nm t m (pt_nt t m p))) := Eq.trans (y56 60 (by decide)) (Eq.trans (ov_up_row h25 60 c (pt_nm t m (pt_nt t m p))) (congrArg (fun f => ov_rs f c (pt_nm t m (pt_nt t m p))) E33))
              have fr64 : ∀ a : Int, a ≠ 1 ∧ a ≠ 3 ∧ a ≠ 58 ∧ a ≠ 60 → h54 a = h a := fun a ca => Eq.trans (y56 a (by omega)) (Eq.trans (by show (ov_up h25 60 c (pt_nm t m (pt_nt t m p))) a = h25 a; rw [ov_up_ne (by omega)]) (fr34 a ca))
              have e65 : h54 3 1 = 58 := Eq.trans (congrFun (show h54 3 = (ov_up h25 60 c (pt_nm t m (pt_nt t m p))) 3 from y56 3 (by decide)) 1) e35
              have y57_ : pt_TC t m (h54 1) (pt_nt t m (pt_nt t m p)) := y57
              have g66 := pt_TC_b y57_
              have g67 := pt_nt_le (t := t) (n := m) (p := (pt_nt t m p)) (by omega)
              show ov_R u d ov_m60 95 [(0, ov_r 3), (1, ov_i c)] [] z53 h54 (P_fReader_readRound_3_k3_1_58 F z h t m p kd cm c)
              refine ov_blk (ls2 := [(0, ov_r 3), (1, ov_i c)]) (st2 := [ov_i 1]) (pc2 := 96) b_60_95_1 rfl rfl ?_
              have h10 : h54 58 10 = ((h 58) 10) := congrFun (show h54 58 = (h 58) from E60) 10
              have hF : (pt_rdF t m kd cm p) = 0 := by unfold pt_rdF; (repeat' split) <;> omega
              have hC : pt_rdC kd cm (pt_nm t m (pt_nt t m p)) = (h54 58 10) := by unfold pt_rdC; first | (rw [if_pos (by omega)]; omega) | (rw [if_neg (by omega)]; omega)
              have cf68 : h54 3 1 = h25 3 1 := congrFun (E59) 1
              have cf69 : h54 3 2 = h25 3 2 := congrFun (E59) 2
              have cf70 : h54 58 10 = h 58 10 := congrFun (E60) 10
              exact ov_retz (st := []) d_60_96 rfl (by omega) ⟨_, rfl, I55, (fun a ca => (fr64 a ca)), (Or.inr ⟨rfl, (by show (pt_rdF t m kd cm p) = 0 ∧ pt_ty t m (pt_nt t m p) = 3 ∧ 1 ≤ (pt_nm t m (pt_nt t m p)) ∧ (pt_nm t m (pt_nt t m p)) ≤ 60 ∧ (h54 58 10) = pt_rdC kd cm (pt_nm t m (pt_nt t m p)) ∧ 1 ≤ pt_rdC kd cm (pt_nm t m (pt_nt t m p)) ∧ pt_rdC kd cm (pt_nm t m (pt_nt t m p)) ≤ 1200 ∧ (h54 3 1) = (h 3 1) ∧ (h54 3 2) = (h 3 2); omega), y57_, R63, (fun k hk => congrFun E60 k)⟩)⟩
            · omega
          · skip
            show ov_R u d ov_m60 46 [(0, ov_r 3), (1, ov_i c)] [ov_i 1] z24 (ov_up h25 60 c (pt_nm t m (pt_nt t m p))) (P_fReader_readRound_3_k3_1_58 F z h t m p kd cm c)
            have f71 : kd = 0 ∨ kd = 1 := f50
            clear f50
            refine ov_ifeq (tgt := 88) d_60_46 (by decide) (by omega) (fun c72 => ?_) (fun c72 => ?_)
            · omega
            · skip
              refine ov_blk (ls2 := [(0, ov_r 3), (1, ov_i c)]) (st2 := [ov_r 3]) (pc2 := 50) b_60_49_1 rfl rfl ?_
              refine ov_getf (v := ov_r 58) d_60_50 fl_Reader_15 (zb_3 I45) (zs_3 I45) (congrArg ov_r e35) ?_
              have e73 : (ov_up h25 60 c (pt_nm t m (pt_nt t m p))) 58 10 = cm := Eq.trans (congrFun (show (ov_up h25 60 c (pt_nm t m (pt_nt t m p))) 58 = h 58 from E31) 10) p2
              refine ov_getf (v := ov_i cm) d_60_53 fl_Reader_171 (zb_58 I45) (zs_58 I45) (congrArg ov_i e73) ?_
              have g74 := rg_58_10 I45
              rw [e73] at g74
              refine ov_blk (ls2 := [(0, ov_r 3), (1, ov_i c)]) (st2 := [ov_r 3, ov_i cm]) (pc2 := 57) b_60_56_1 rfl rfl ?_
              refine ov_getf (v := ov_r 1) d_60_57 fl_Reader_9 (zb_3 I45) (zs_3 I45) (congrArg ov_r (rg_3_0 I45)) ?_
              have e75 : (ov_up h25 60 c (pt_nm t m (pt_nt t m p))) 1 4 = (pt_nm t m (pt_nt t m p)) := Eq.trans (congrFun (show (ov_up h25 60 c (pt_nm t m (pt_nt t m p))) 1 = h3 1 from E29) 4) (pt_TC_n y15_ (by omega))
              refine ov_getf (v := ov_i (pt_nm t m (pt_nt t m p))) d_60_60 fl_Reader_146 (zb_1 I45) (zs_1 I45) (congrArg ov_i e75) ?_
              refine ov_cSN (as := [ov_i cm, ov_i (pt_nm t m (pt_nt t m p))]) (st := []) (d2 := d - 1) d_60_63 lk_Reader_174 rfl (Nat.le_of_ble_eq_true rfl) (by omega) (c_fOF_commonMultiple (d - 1) (by omega) U I45 cm (pt_nm t m (pt_nt t m p)) (by omega) (by omega) (by show 1 ≤ cm ∧ cm ≤ 1200 ∧ 1 ≤ (pt_nm t m (pt_nt t m p)) ∧ (pt_nm t m (pt_nt t m p)) ≤ 60; omega)) ?_
              rintro _ _ _ ⟨v76, rfl, rfl, rfl, rfl⟩
              have g77 := @pt_lc_b cm (pt_nm t m (pt_nt t m p)) (by omega)
              show ov_R u d ov_m60 66 [(0, ov_r 3), (1, ov_i c)] [ov_i (pt_lc cm (pt_nm t m (pt_nt t m p)))] z24 (ov_up h25 60 c (pt_nm t m (pt_nt t m p))) (P_fReader_readRound_3_k3_1_58 F z h t m p kd cm c)
              refine ov_blk (ls2 := [(0, ov_r 3), (1, ov_i c), (2, ov_i (pt_lc cm (pt_nm t m (pt_nt t m p))))]) (st2 := [ov_i 1200, ov_i (pt_lc cm (pt_nm t m (pt_nt t m p)))]) (pc2 := 71) b_60_66_3 rfl rfl ?_
              refine ov_icle (tgt := 80) d_60_71 (by decide) (by omega) (by omega) (fun c78 => ?_) (fun c78 => ?_)
              · skip
                refine ov_blk (ls2 := [(0, ov_r 3), (1, ov_i c), (2, ov_i (pt_lc cm (pt_nm t m (pt_nt t m p))))]) (st2 := [ov_r 3]) (pc2 := 81) b_60_80_1 rfl rfl ?_
                refine ov_getf (v := ov_r 58) d_60_81 fl_Reader_15 (zb_3 I45) (zs_3 I45) (congrArg ov_r e35) ?_
                refine ov_blk (ls2 := [(0, ov_r 3), (1, ov_i c), (2, ov_i (pt_lc cm (pt_nm t m (pt_nt t m p))))]) (st2 := [ov_i (pt_lc cm (pt_nm t m (pt_nt t m p))), ov_r 58]) (pc2 := 85) b_60_84_1 rfl rfl ?_
                refine ov_putf (x := (pt_lc cm (pt_nm t m (pt_nt t m p)))) d_60_85 fl_Reader_171 (zb_58 I45) (zs_58 I45) rfl nk_0 rfl ?_
                have I79 := up_58_10 (x := (pt_lc cm (pt_nm t m (pt_nt t m p)))) I45 (by omega) (hw 58 (by decide +kernel))
                show ov_R u d ov_m60 88 [(0, ov_r 3), (1, ov_i c), (2, ov_i (pt_lc cm (pt_nm t m (pt_nt t m p))))] [] z24 (ov_up (ov_up h25 60 c (pt_nm t m (pt_nt t m p))) 58 10 (pt_lc cm (pt_nm t m (pt_nt t m p)))) (P_fReader_readRound_3_k3_1_58 F z h t m p kd cm c)
                refine ov_blk (ls2 := [(0, ov_r 3), (1, ov_i c), (2, ov_i (pt_lc cm (pt_nm t m (pt_nt t m p))))]) (st2 := [ov_r 3]) (pc2 := 89) b_60_88_1 rfl rfl ?_
                refine ov_getf (v := ov_r 1) d_60_89 fl_Reader_9 (zb_3 I79) (zs_3 I79) (congrArg ov_r (rg_3_0 I79)) ?_
                refine ov_cV (as := []) (st := []) (d2 := d - 1) d_60_92 lk_Reader_75 rfl (Nat.le_of_ble_eq_true rfl) (c := 8) (zb_1 I79) (zs_1 I79) ⟨by decide, rfl⟩ (by omega) (c_fTape_advance_1_t t m (pt_nt t m p) (d - 1) (by omega) U I79 (ov_kws hw (by decide +kernel)) (show (ov_up (ov_up h25 60 c (pt_nm t m (pt_nt t m p))) 58 10 (pt_lc cm (pt_nm t m (pt_nt t m p)))) 2 = t from Eq.trans (show (ov_up (ov_up h25 60 c (pt_nm t m (pt_nt t m p))) 58 10 (pt_lc cm (pt_nm t m (pt_nt t m p)))) 2 = h 2 from E30) et) (by rw [show (ov_up (ov_up h25 60 c (pt_nm t m (pt_nt t m p))) 58 10 (pt_lc cm (pt_nm t m (pt_nt t m p)))) 1 = h3 1 from E29]; exact y15_)) ?_
                rintro _ z80 h81 ⟨rfl, I82, y83, y84⟩
                have E85 : h81 2 = h 2 := Eq.trans (y83 2 (by decide)) (show (ov_up (ov_up h25 60 c (pt_nm t m (pt_nt t m p))) 58 10 (pt_lc cm (pt_nm t m (pt_nt t m p)))) 2 = h 2 from E30)
                have E86 : h81 3 = h25 3 := Eq.trans (y83 3 (by decide)) (show (ov_up (ov_up h25 60 c (pt_nm t m (pt_nt t m p))) 58 10 (pt_lc cm (pt_nm t m (pt_nt t m p)))) 3 = h25 3 from rfl)
                have R88 : h81 58 = (ov_rs (h 58) 10 (pt_lc cm (pt_nm t m (pt_nt t m p)))) := Eq.trans (y83 58 (by decide)) (Eq.trans (ov_up_row (ov_up h25 60 c (pt_nm t m (pt_nt t m p))) 58 10 (pt_lc cm (pt_nm t m (pt_nt t m p)))) (congrArg (fun f => ov_rs f 10 (pt_lc cm (pt_nm t m (pt_nt t m p)))) (Eq.trans (show (ov_up h25 60 c (pt_nm t m (pt_nt t m p))) 58 = h25 58 from rfl) E31)))
                have E89 : h81 59 = h 59 := Eq.trans (y83 59 (by decide)) (show (ov_up (ov_up h25 60 c (pt_nm t m (pt_nt t m p))) 58 10 (pt_lc cm (pt_nm t m (pt_nt t m p)))) 59 = h 59 from E32)
                have R91 : h81 60 = (ov_rs (h 60) c (pt_nm t m (pt_nt t m p))) := Eq.trans (y83 60 (by decide)) (Eq.trans (show (ov_up (ov_up h25 60 c (pt_nm t m (pt_nt t m p))) 58 10 (pt_lc cm (pt_nm t m (pt_nt t m p)))) 60 = (ov_up h25 60 c (pt_nm t m (pt_nt t m p))) 60 from rfl) (Eq.trans (ov_up_row h25 60 c (pt_nm t m (pt_nt t m p))) (congrArg (fun f => ov_rs f c (pt_nm t m (pt_nt t m p))) E33)))
                have fr92 : ∀ a : Int, a ≠ 1 ∧ a ≠ 3 ∧ a ≠ 58 ∧ a ≠ 60 → h81 a = h a := fun a ca => Eq.trans (y83 a (by omega)) (Eq.trans (by show (ov_up (ov_up h25 60 c (pt_nm t m (pt_nt t m p))) 58 10 (pt_lc cm (pt_nm t m (pt_nt t m p)))) a = h25 a; rw [ov_up_ne (by omega), ov_up_ne (by omega)]) (fr34 a ca))
                have e93 : h81 3 1 = 58 := Eq.trans (congrFun (show h81 3 = (ov_up (ov_up h25 60 c (pt_nm t m (pt_nt t m p))) 58 10 (pt_lc cm (pt_nm t m (pt_nt t m p)))) 3 from y83 3 (by decide)) 1) e35
                have y84_ : pt_TC t m (h81 1) (pt_nt t m (pt_nt t m p)) := y84
                have g94 := pt_TC_b y84_
                have g95 := pt_nt_le (t := t) (n := m) (p := (pt_nt t m p)) (by omega)
                show ov_R u d ov_m60 95 [(0, ov_r 3), (1, ov_i c), (2, ov_i (pt_lc cm (pt_nm t m (pt_nt t m p))))] [] z80 h81 (P_fReader_readRound_3_k3_1_58 F z h t m p kd cm c)
                refine ov_blk (ls2 := [(0, ov_r 3), (1, ov_i c), (2, ov_i (pt_lc cm (pt_nm t m (pt_nt t m p))))]) (st2 := [ov_i 1]) (pc2 := 96) b_60_95_1 rfl rfl ?_
                have h10 : h81 58 10 = (pt_lc cm (pt_nm t m (pt_nt t m p))) := by rw [show h81 58 = (ov_rs (h 58) 10 (pt_lc cm (pt_nm t m (pt_nt t m p)))) from R88, ov_rs_eq]
                have hF : (pt_rdF t m kd cm p) = 0 := by unfold pt_rdF; (repeat' split) <;> omega
                have hC : pt_rdC kd cm (pt_nm t m (pt_nt t m p)) = (h81 58 10) := by unfold pt_rdC; first | (rw [if_pos (by omega)]; omega) | (rw [if_neg (by omega)]; omega)
                have cf96 : h81 3 1 = h25 3 1 := congrFun (E86) 1
                have cf97 : h81 3 2 = h25 3 2 := congrFun (E86) 2
                have q98 : h81 58 10 = (pt_lc cm (pt_nm t m (pt_nt t m p))) := by rw [show h81 58 = (ov_rs (h 58) 10 (pt_lc cm (pt_nm t m (pt_nt t m p)))) from R88, ov_rs_eq]
                exact ov_retz (st := []) d_60_96 rfl (by omega) ⟨_, rfl, I82, (fun a ca => (fr92 a ca)), (Or.inr ⟨rfl, (by show (pt_rdF t m kd cm p) = 0 ∧ pt_ty t m (pt_nt t m p) = 3 ∧ 1 ≤ (pt_nm t m (pt_nt t m p)) ∧ (pt_nm t m (pt_nt t m p)) ≤ 60 ∧ (h81 58 10) = pt_rdC kd cm (pt_nm t m (pt_nt t m p)) ∧ 1 ≤ pt_rdC kd cm (pt_nm t m (pt_nt t m p)) ∧ pt_rdC kd cm (pt_nm t m (pt_nt t m p)) ≤ 1200 ∧ (h81 3 1) = (h 3 1) ∧ (h81 3 2) = (h 3 2); omega), y84_, R91, (fun k hk => by rw [show h81 58 = (ov_rs (h 58) 10 (pt_lc cm (pt_nm t m (pt_nt t m p)))) from R88, ov_rs_ne hk])⟩)⟩
              · skip
                refine ov_blk (ls2 := [(0, ov_r 3), (1, ov_i c), (2, ov_i (pt_lc cm (pt_nm t m (pt_nt t m p))))]) (st2 := [ov_i 4, ov_r 3]) (pc2 := 76) b_60_74_2 rfl rfl ?_
                refine ov_cV (as := [ov_i 4]) (st := []) (d2 := d - 1) d_60_76 lk_Reader_58 rfl (Nat.le_of_ble_eq_true rfl) (c := 6) (zb_3 I45) (zs_3 I45) ⟨by decide, rfl⟩ (by omega) (c_fReader_fail_3 t m (pt_nt t m p) (d - 1) (by omega) U I45 (ov_kws hw (by decide +kernel)) 4 (by omega) (by show 1 ≤ (4 : Int) ∧ (4 : Int) ≤ 5; omega) (show (ov_up h25 60 c (pt_nm t m (pt_nt t m p))) 2 = t from Eq.trans (show (ov_up h25 60 c (pt_nm t m (pt_nt t m p))) 2 = h 2 from E30) et) (by rw [show (ov_up h25 60 c (pt_nm t m (pt_nt t m p))) 1 = h3 1 from E29]; exact y15_)) ?_
                rintro _ z100 h101 ⟨v99, rfl, I102, y103, y104⟩
                have E105 : h101 1 = h3 1 := Eq.trans (y103 1 (by decide)) (show (ov_up h25 60 c (pt_nm t m (pt_nt t m p))) 1 = h3 1 from E29)
                have E106 : h101 2 = h 2 := Eq.trans (y103 2 (by decide)) (show (ov_up h25 60 c (pt_nm t m (pt_nt t m p))) 2 = h 2 from E30)
                have E107 : h101 58 = h 58 := Eq.trans (y103 58 (by decide)) (show (ov_up h25 60 c (pt_nm t m (pt_nt t m p))) 58 = h 58 from E31)
                have E108 : h101 59 = h 59 := Eq.trans (y103 59 (by decide)) (show (ov_up h25 60 c (pt_nm t m (pt_nt t m p))) 59 = h 59 from E32)
                have R110 : h101 60 = (ov_rs (h 60) c (pt_nm t m (pt_nt t m p))) := Eq.trans (y103 60 (by decide)) (Eq.trans (ov_up_row h25 60 c (pt_nm t m (pt_nt t m p))) (congrArg (fun f => ov_rs f c (pt_nm t m (pt_nt t m p))) E33))
                have fr111 : ∀ a : Int, a ≠ 1 ∧ a ≠ 3 ∧ a ≠ 58 ∧ a ≠ 60 → h101 a = h a := fun a ca => Eq.trans (y103 a (by omega)) (Eq.trans (by show (ov_up h25 60 c (pt_nm t m (pt_nt t m p))) a = h25 a; rw [ov_up_ne (by omega)]) (fr34 a ca))
                rcases y104 with ⟨rfl, f113⟩
                · skip
                  show ov_R u d ov_m60 79 [(0, ov_r 3), (1, ov_i c), (2, ov_i (pt_lc cm (pt_nm t m (pt_nt t m p))))] [ov_i 0] z100 h101 (P_fReader_readRound_3_k3_1_58 F z h t m p kd cm c)
                  have f114 : (h101 3 2) = (4 : Int) + 16 * (pt_nt t m p) ∧ (h101 3 1) = (h25 3 1) := f113
                  clear f113
                  have e112 : h101 3 1 = 58 := by omega
                  have hF : (pt_rdF t m kd cm p) = (h101 3 2) := by unfold pt_rdF; (repeat' split) <;> omega
                  have cf115 : h101 58 10 = h 58 10 := congrFun (E107) 10
                  exact ov_retz (st := []) d_60_79 rfl (by omega) ⟨_, rfl, I102, (fun a ca => (fr111 a ca)), (Or.inl ⟨rfl, (by show (h101 3 2) = (pt_rdF t m kd cm p) ∧ 1 ≤ (pt_rdF t m kd cm p) ∧ (h101 3 1) = (h 3 1); omega)⟩)⟩
        · omega

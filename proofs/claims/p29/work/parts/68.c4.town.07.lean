abbrev P_fReader_readTown_3_58 (F : ov_H) (z : ov_Z) (h : ov_H) (t : Int → Int) (m : Int) : Option ov_V → ov_Z → ov_H → Prop := fun r0 z' h' => ∃ r : Int, r0 = some (ov_i r) ∧ ov_I F z' h' ∧ (∀ a : Int, a ≠ 1 ∧ a ≠ 3 ∧ (a < 58 ∨ 69 < a) → h' a = h a) ∧ ((∃ B : Int → Int, ((h' 1 1) = 0 ∧ 0 ≤ r ∧ r ≤ 2147483647 ∧ (r = 0 → 0 ≤ (h' 64 0) ∧ 1 ≤ (h' 58 0) ∧ 1 ≤ (h' 58 1))) ∧ (pt_ET t m r B) ∧ (r = 0 → tw_TB B (h' 58) (h' 59) (h' 60) (h' 61) (h' 62) (h' 63) (h' 64) (h' 65))))
set_option maxHeartbeats 4000000 in
theorem c_fReader_readTown_3_58 {u : ov_U} {F : ov_H} (t : Int → Int) (m : Int) {z : ov_Z} {h : ov_H} (d : Nat) (hd : 42 ≤ d) (U : ov_cap u) (I : ov_I F z h) (hw : ov_kw 590007579982553939978 F) (p0 : (h 1 1) = m) (p1 : 0 ≤ m ∧ m ≤ 1000) (et : (h 2) = t) : ov_T u d ov_m24 [ov_r 3, ov_r 58] z h (P_fReader_readTown_3_58 F z h t m) := by
  refine ov_en rfl (Nat.le_of_ble_eq_true rfl) ?_
  show ov_R u d ov_m24 0 [(0, ov_r 3), (1, ov_r 58)] [] z h (P_fReader_readTown_3_58 F z h t m)
  refine ov_blk (ls2 := [(0, ov_r 3), (1, ov_r 58)]) (st2 := [ov_r 58, ov_r 3]) (pc2 := 2) b_24_0_2 rfl rfl ?_
  refine ov_putf (x := 58) d_24_2 fl_Reader_15 (zb_3 I) (zs_3 I) rfl nk_2 rfl ?_
  have I1 := up_3_1 (x := 58) I (by omega) (hw 3 (by decide +kernel))
  show ov_R u d ov_m24 5 [(0, ov_r 3), (1, ov_r 58)] [] z (ov_up h 3 1 58) (P_fReader_readTown_3_58 F z h t m)
  refine ov_blk (ls2 := [(0, ov_r 3), (1, ov_r 58)]) (st2 := [ov_r 3]) (pc2 := 6) b_24_5_1 rfl rfl ?_
  refine ov_getf (v := ov_r 58) d_24_6 fl_Reader_15 (zb_3 I1) (zs_3 I1) rfl ?_
  refine ov_cV (as := []) (st := []) (d2 := d - 1) d_24_9 lk_Reader_19 rfl (Nat.le_of_ble_eq_true rfl) (c := 9) (zb_58 I1) (zs_58 I1) ⟨by decide, rfl⟩ (by omega) (c_fTown_clear_58 (d - 1) (by omega) U I1 (ov_kws hw (by decide +kernel))) ?_
  rintro _ z2 h3 ⟨rfl, I4, y5, f6, y7, y8, y9⟩
  have E10 : h3 1 = h 1 := Eq.trans (y5 1 (by decide)) (show (ov_up h 3 1 58) 1 = h 1 from rfl)
  have E11 : h3 2 = h 2 := Eq.trans (y5 2 (by decide)) (show (ov_up h 3 1 58) 2 = h 2 from rfl)
  have R13 : h3 3 = (ov_rs (h 3) 1 58) := Eq.trans (y5 3 (by decide)) (Eq.trans (ov_up_row h 3 1 58) (congrArg (fun f => ov_rs f 1 58) rfl))
  have E14 : h3 60 = h 60 := Eq.trans (y5 60 (by decide)) (show (ov_up h 3 1 58) 60 = h 60 from rfl)
  have E15 : h3 61 = h 61 := Eq.trans (y5 61 (by decide)) (show (ov_up h 3 1 58) 61 = h 61 from rfl)
  have E16 : h3 62 = h 62 := Eq.trans (y5 62 (by decide)) (show (ov_up h 3 1 58) 62 = h 62 from rfl)
  have E17 : h3 66 = h 66 := Eq.trans (y5 66 (by decide)) (show (ov_up h 3 1 58) 66 = h 66 from rfl)
  have E18 : h3 65 = h 65 := Eq.trans (y5 65 (by decide)) (show (ov_up h 3 1 58) 65 = h 65 from rfl)
  have fr19 : ∀ a : Int, a ≠ 1 ∧ a ≠ 3 ∧ (a < 58 ∨ 69 < a) → h3 a = h a := fun a ca => Eq.trans (y5 a (by omega)) (Eq.trans (by show (ov_up h 3 1 58) a = h a; rw [ov_up_ne (by omega)]) rfl)
  have e20 : h3 3 1 = 58 := Eq.trans (congrFun (show h3 3 = (ov_up h 3 1 58) 3 from y5 3 (by decide)) 1) rfl
  have f21 : (h3 58 0) = 1 ∧ (h3 58 1) = 1 ∧ (h3 58 8) = 0 ∧ (h3 58 9) = 0 ∧ (h3 58 10) = 1 ∧ (h3 58 11) = 0 := f6
  clear f6
  have y7_ : ∀ k : Int, 0 ≤ k → k < 54 → (h3 59) k = -1 := y7
  have y8_ : ∀ k : Int, 0 ≤ k → k < 54 → (h3 63) k = 0 := y8
  have y9_ : ∀ k : Int, 0 ≤ k → k < 4 → (h3 64) k = -1 := y9
  show ov_R u d ov_m24 12 [(0, ov_r 3), (1, ov_r 58)] [] z2 h3 (P_fReader_readTown_3_58 F z h t m)
  refine ov_blk (ls2 := [(0, ov_r 3), (1, ov_r 58)]) (st2 := [ov_i 0, ov_r 3]) (pc2 := 14) b_24_12_2 rfl rfl ?_
  refine ov_putf (x := 0) d_24_14 fl_Reader_24 (zb_3 I4) (zs_3 I4) rfl nk_0 rfl ?_
  have I22 := up_3_2 (x := 0) I4 (by omega) (hw 3 (by decide +kernel))
  show ov_R u d ov_m24 17 [(0, ov_r 3), (1, ov_r 58)] [] z2 (ov_up h3 3 2 0) (P_fReader_readTown_3_58 F z h t m)
  refine ov_blk (ls2 := [(0, ov_r 3), (1, ov_r 58)]) (st2 := [ov_r 3]) (pc2 := 18) b_24_17_1 rfl rfl ?_
  refine ov_getf (v := ov_r 1) d_24_18 fl_Reader_9 (zb_3 I22) (zs_3 I22) (congrArg ov_r (rg_3_0 I22)) ?_
  have cf23 : h3 1 (1) = h 1 (1) := congrFun E10 (1)
  refine ov_cV (as := []) (st := []) (d2 := d - 1) d_24_21 lk_Reader_28 rfl (Nat.le_of_ble_eq_true rfl) (c := 8) (zb_1 I22) (zs_1 I22) ⟨by decide, rfl⟩ (by omega) (c_fTape_begin_1 t m (d - 1) (by omega) U I22 (ov_kws hw (by decide +kernel)) (by show (h3 1 1) = m; omega) (by show 0 ≤ m ∧ m ≤ 1000; omega) (show (ov_up h3 3 2 0) 2 = t from Eq.trans (show (ov_up h3 3 2 0) 2 = h 2 from E11) et)) ?_
  rintro _ z24 h25 ⟨rfl, I26, y27, y28⟩
  have E29 : h25 2 = h 2 := Eq.trans (y27 2 (by decide)) (show (ov_up h3 3 2 0) 2 = h 2 from E11)
  have R31 : h25 3 = (ov_rs (ov_rs (h 3) 1 58) 2 0) := Eq.trans (y27 3 (by decide)) (Eq.trans (ov_up_row h3 3 2 0) (congrArg (fun f => ov_rs f 2 0) R13))
  have E32 : h25 58 = h3 58 := Eq.trans (y27 58 (by decide)) (show (ov_up h3 3 2 0) 58 = h3 58 from rfl)
  have E33 : h25 59 = h3 59 := Eq.trans (y27 59 (by decide)) (show (ov_up h3 3 2 0) 59 = h3 59 from rfl)
  have E34 : h25 60 = h 60 := Eq.trans (y27 60 (by decide)) (show (ov_up h3 3 2 0) 60 = h 60 from E14)
  have E35 : h25 61 = h 61 := Eq.trans (y27 61 (by decide)) (show (ov_up h3 3 2 0) 61 = h 61 from E15)
  have E36 : h25 62 = h 62 := Eq.trans (y27 62 (by decide)) (show (ov_up h3 3 2 0) 62 = h 62 from E16)
  have E37 : h25 63 = h3 63 := Eq.trans (y27 63 (by decide)) (show (ov_up h3 3 2 0) 63 = h3 63 from rfl)
  have E38 : h25 64 = h3 64 := Eq.trans (y27 64 (by decide)) (show (ov_up h3 3 2 0) 64 = h3 64 from rfl)
  have E39 : h25 66 = h 66 := Eq.trans (y27 66 (by decide)) (show (ov_up h3 3 2 0) 66 = h 66 from E17)
  have E40 : h25 65 = h 65 := Eq.trans (y27 65 (by decide)) (show (ov_up h3 3 2 0) 65 = h 65 from E18)
  have fr41 : ∀ a : Int, a ≠ 1 ∧ a ≠ 3 ∧ (a < 58 ∨ 69 < a) → h25 a = h a := fun a ca => Eq.trans (y27 a (by omega)) (Eq.trans (by show (ov_up h3 3 2 0) a = h3 a; rw [ov_up_ne (by omega)]) (fr19 a ca))
  have e42 : h25 3 1 = 58 := Eq.trans (congrFun (show h25 3 = (ov_up h3 3 2 0) 3 from y27 3 (by decide)) 1) e20
  have y28_ : pt_TC t m (h25 1) (pt_rn pt_bB t m 0) := y28
  have g43 := pt_TC_b y28_
  show ov_R u d ov_m24 24 [(0, ov_r 3), (1, ov_r 58)] [] z24 h25 (P_fReader_readTown_3_58 F z h t m)
  have f32 : h25 3 2 = 0 := by rw [show h25 3 = (ov_rs (ov_rs (h 3) 1 58) 2 0) from R31]; exact ov_rs_eq _ _ _
  have cf44 : h25 58 8 = h3 58 8 := congrFun E32 8
  have cf45 : h25 58 9 = h3 58 9 := congrFun E32 9
  have cf46 : h25 58 10 = h3 58 10 := congrFun E32 10
  have cf47 : h25 58 11 = h3 58 11 := congrFun E32 11
  refine ov_blk (ls2 := [(0, ov_r 3), (1, ov_r 58)]) (st2 := [ov_r 3]) (pc2 := 25) b_24_24_1 rfl rfl ?_
  refine ov_cV (as := []) (st := []) (d2 := d - 1) d_24_25 lk_Reader_33 rfl (Nat.le_of_ble_eq_true rfl) (c := 6) (zb_3 I26) (zs_3 I26) ⟨by decide, rfl⟩ (by omega) (c_fReader_readSize_3_k3_1_58 t m (pt_rn pt_bB t m 0) (d - 1) (by omega) U I26 (ov_kws hw (by decide +kernel)) e42 (show h25 2 = t from Eq.trans (show h25 2 = h 2 from E29) et) y28_) ?_
  rintro _ z49 h50 ⟨v48, rfl, I51, y52, y53⟩
  have E54 : h50 2 = h 2 := Eq.trans (y52 2 (by decide)) (show h25 2 = h 2 from E29)
  have E55 : h50 59 = h3 59 := Eq.trans (y52 59 (by decide)) (show h25 59 = h3 59 from E33)
  have E56 : h50 60 = h 60 := Eq.trans (y52 60 (by decide)) (show h25 60 = h 60 from E34)
  have E57 : h50 61 = h 61 := Eq.trans (y52 61 (by decide)) (show h25 61 = h 61 from E35)
  have E58 : h50 62 = h 62 := Eq.trans (y52 62 (by decide)) (show h25 62 = h 62 from E36)
  have E59 : h50 63 = h3 63 := Eq.trans (y52 63 (by decide)) (show h25 63 = h3 63 from E37)
  have E60 : h50 64 = h3 64 := Eq.trans (y52 64 (by decide)) (show h25 64 = h3 64 from E38)
  have E61 : h50 66 = h 66 := Eq.trans (y52 66 (by decide)) (show h25 66 = h 66 from E39)
  have E62 : h50 65 = h 65 := Eq.trans (y52 65 (by decide)) (show h25 65 = h 65 from E40)
  have fr63 : ∀ a : Int, a ≠ 1 ∧ a ≠ 3 ∧ (a < 58 ∨ 69 < a) → h50 a = h a := fun a ca => Eq.trans (y52 a (by omega)) (fr41 a ca)
  rcases y53 with ⟨rfl, f65⟩ | ⟨rfl, f66, y67, y68⟩
  · skip
    show ov_R u d ov_m24 28 [(0, ov_r 3), (1, ov_r 58)] [ov_i 0] z49 h50 (P_fReader_readTown_3_58 F z h t m)
    have f69 : (h50 3 2) = (pt_szF t m (pt_rn pt_bB t m 0)) ∧ 1 ≤ (pt_szF t m (pt_rn pt_bB t m 0)) ∧ (h50 3 1) = (h25 3 1) := f65
    clear f65
    have e64 : h50 3 1 = 58 := by omega
    refine ov_blk (ls2 := [(0, ov_r 3), (1, ov_r 58), (2, ov_i 0), (3, ov_i 0)]) (st2 := []) (pc2 := 31) b_24_28_3 rfl rfl ?_
    refine ov_blk (ls2 := [(0, ov_r 3), (1, ov_r 58), (2, ov_i 0), (3, ov_i 0)]) (st2 := [ov_i 1000, ov_i 0]) (pc2 := 35) b_24_31_2 rfl rfl ?_
    refine ov_icge (tgt := 63) d_24_35 (by decide) (by omega) (by omega) (fun c70 => ?_) (fun c70 => ?_)
    · omega
    · skip
      refine ov_blk (ls2 := [(0, ov_r 3), (1, ov_r 58), (2, ov_i 0), (3, ov_i 0)]) (st2 := [ov_i 0]) (pc2 := 39) b_24_38_1 rfl rfl ?_
      refine ov_ifeq (tgt := 63) d_24_39 (by decide) (by omega) (fun c71 => ?_) (fun c71 => ?_)
      · skip
        refine ov_blk (ls2 := [(0, ov_r 3), (1, ov_r 58), (2, ov_i 0), (3, ov_i 0)]) (st2 := [ov_i 0]) (pc2 := 64) b_24_63_1 rfl rfl ?_
        refine ov_ifeq (tgt := 74) d_24_64 (by decide) (by omega) (fun c72 => ?_) (fun c72 => ?_)
        · skip
          refine ov_blk (ls2 := [(0, ov_r 3), (1, ov_r 58), (2, ov_i 0), (3, ov_i 0)]) (st2 := [ov_r 3]) (pc2 := 75) b_24_74_1 rfl rfl ?_
          refine ov_getf (v := ov_r 1) d_24_75 fl_Reader_9 (zb_3 I51) (zs_3 I51) (congrArg ov_r (rg_3_0 I51)) ?_
          refine ov_cV (as := []) (st := []) (d2 := d - 1) d_24_78 lk_Reader_46 rfl (Nat.le_of_ble_eq_true rfl) (c := 8) (zb_1 I51) (zs_1 I51) ⟨by decide, rfl⟩ (by omega) (c_fTape_clear_1 (d - 1) (by omega) U I51 (ov_kws hw (by decide +kernel))) ?_
          rintro _ z73 h74 ⟨rfl, I75, y76, f77⟩
          have E78 : h74 2 = h 2 := Eq.trans (y76 2 (by decide)) (show h50 2 = h 2 from E54)
          have E79 : h74 3 = h50 3 := Eq.trans (y76 3 (by decide)) (show h50 3 = h50 3 from rfl)
          have E80 : h74 58 = h50 58 := Eq.trans (y76 58 (by decide)) (show h50 58 = h50 58 from rfl)
          have E81 : h74 59 = h3 59 := Eq.trans (y76 59 (by decide)) (show h50 59 = h3 59 from E55)
          have E82 : h74 60 = h 60 := Eq.trans (y76 60 (by decide)) (show h50 60 = h 60 from E56)
          have E83 : h74 61 = h 61 := Eq.trans (y76 61 (by decide)) (show h50 61 = h 61 from E57)
          have E84 : h74 62 = h 62 := Eq.trans (y76 62 (by decide)) (show h50 62 = h 62 from E58)
          have E85 : h74 63 = h3 63 := Eq.trans (y76 63 (by decide)) (show h50 63 = h3 63 from E59)
          have E86 : h74 64 = h3 64 := Eq.trans (y76 64 (by decide)) (show h50 64 = h3 64 from E60)
          have E87 : h74 66 = h 66 := Eq.trans (y76 66 (by decide)) (show h50 66 = h 66 from E61)
          have E88 : h74 65 = h 65 := Eq.trans (y76 65 (by decide)) (show h50 65 = h 65 from E62)
          have fr89 : ∀ a : Int, a ≠ 1 ∧ a ≠ 3 ∧ (a < 58 ∨ 69 < a) → h74 a = h a := fun a ca => Eq.trans (y76 a (by omega)) (fr63 a ca)
          have e90 : h74 3 1 = 58 := Eq.trans (congrFun (show h74 3 = h50 3 from y76 3 (by decide)) 1) e64
          have f91 : (h74 1 1) = 0 := f77
          clear f77
          show ov_R u d ov_m24 81 [(0, ov_r 3), (1, ov_r 58), (2, ov_i 0), (3, ov_i 0)] [] z73 h74 (P_fReader_readTown_3_58 F z h t m)
          refine ov_blk (ls2 := [(0, ov_r 3), (1, ov_r 58), (2, ov_i 0), (3, ov_i 0)]) (st2 := [ov_r 3]) (pc2 := 82) b_24_81_1 rfl rfl ?_
          have e92 : h74 3 2 = (h50 3 2) := congrFun (show h74 3 = h50 3 from E79) 2
          refine ov_getf (v := ov_i (h50 3 2)) d_24_82 fl_Reader_24 (zb_3 I75) (zs_3 I75) (congrArg ov_i e92) ?_
          have g93 := rg_3_2 I75
          rw [e92] at g93
          have q94 : h74 58 0 = h50 58 0 := congrFun (show h74 58 = h50 58 from E80) 0
          have q95 : h74 58 1 = h50 58 1 := congrFun (show h74 58 = h50 58 from E80) 1
          have q96 : h74 64 0 = h3 64 0 := congrFun E86 0
          have cf97 : h74 58 0 = h50 58 0 := congrFun (E80) 0
          have cf98 : h74 58 1 = h50 58 1 := congrFun (E80) 1
          have cf99 : h74 64 0 = h3 64 0 := congrFun (E86) 0
          exact ov_reti (st := []) d_24_85 rfl ⟨_, rfl, I75, (fun a ca => (fr89 a ca)), ⟨(fun _ => 0), (by show (h74 1 1) = 0 ∧ 0 ≤ (h50 3 2) ∧ (h50 3 2) ≤ 2147483647 ∧ ((h50 3 2) = 0 → 0 ≤ (h74 64 0) ∧ 1 ≤ (h74 58 0) ∧ 1 ≤ (h74 58 1)); omega), (Or.inl ⟨by omega, by omega⟩), (fun e => absurd e (by omega))⟩⟩
        · omega
      · omega
  · skip
    show ov_R u d ov_m24 28 [(0, ov_r 3), (1, ov_r 58)] [ov_i 1] z49 h50 (P_fReader_readTown_3_58 F z h t m)
    have f100 : (pt_szF t m (pt_rn pt_bB t m 0)) = 0 ∧ 1 ≤ (pt_nm t m (pt_nt t m (pt_rn pt_bB t m 0))) ∧ (pt_nm t m (pt_nt t m (pt_rn pt_bB t m 0))) ≤ 6 ∧ 1 ≤ (pt_nm t m (pt_nt t m (pt_nt t m (pt_rn pt_bB t m 0)))) ∧ (pt_nm t m (pt_nt t m (pt_nt t m (pt_rn pt_bB t m 0)))) ≤ 9 ∧ (h50 3 1) = (h25 3 1) ∧ (h50 3 2) = (h25 3 2) := f66
    clear f66
    have e64 : h50 3 1 = 58 := by omega
    have y67_ : pt_TC t m (h50 1) (pt_nt t m (pt_nt t m (pt_nt t m (pt_nt t m (pt_rn pt_bB t m 0))))) := y67
    have g101 := pt_TC_b y67_
    have g102 := pt_nt_le (t := t) (n := m) (p := (pt_rn pt_bB t m 0)) (by omega)
    have g103 := pt_nt_le (t := t) (n := m) (p := (pt_nt t m (pt_rn pt_bB t m 0))) (by omega)
    have g104 := pt_nt_le (t := t) (n := m) (p := (pt_nt t m (pt_nt t m (pt_rn pt_bB t m 0)))) (by omega)
    have g105 := pt_nt_le (t := t) (n := m) (p := (pt_nt t m (pt_nt t m (pt_nt t m (pt_rn pt_bB t m 0))))) (by omega)
    have y68_ : (h50 58) = ov_rs (ov_rs (h25 58) 0 (pt_nm t m (pt_nt t m (pt_rn pt_bB t m 0)))) 1 (pt_nm t m (pt_nt t m (pt_nt t m (pt_rn pt_bB t m 0)))) := y68
    have g106 : (h50 1 3) = (pt_nt t m (pt_nt t m (pt_nt t m (pt_nt t m (pt_rn pt_bB t m 0))))) := pt_TC_p y67_
    refine ov_blk (ls2 := [(0, ov_r 3), (1, ov_r 58), (2, ov_i 1), (3, ov_i 0)]) (st2 := []) (pc2 := 31) b_24_28_3 rfl rfl ?_
    have L110 : ∀ (n107 : Nat) (x3 : Int) (z111 : ov_Z) (h112 : ov_H) (I113 : ov_I F z111 h112) (E114 : h112 2 = h 2) (fr115 : ∀ a : Int, a ≠ 1 ∧ a ≠ 3 ∧ (a < 58 ∨ 69 < a) → h112 a = h a) (e116 : h112 3 1 = 58) (xg : ∃ A : Int → Int, pt_CR t m A (h112 58) (h112 59) (h112 60) (h112 61) (h112 62) (h112 63) (h112 64) (h112 66) ∧ ∀ (f : Int) (B : Int → Int), pt_EG t m A (h112 1 3) f B → pt_ET t m f B) (xt : pt_TC t m (h112 1) (h112 1 3)) (q109 : x3 ≤ (h112 1 3) ∧ (h112 1 3) ≤ m ∧ 0 ≤ x3 ∧ x3 ≤ 1000 ∧ (h112 3 2) = 0), 1000 - x3 < (n107 : Int) → ov_R u d ov_m24 31 [(0, ov_r 3), (1, ov_r 58), (2, ov_i 1), (3, ov_i x3)] [] z111 h112 (P_fReader_readTown_3_58 F z h t m) := by
      intro n107
      induction n107 with
      | zero =>
        intro x3 z111 h112 I113 E114 fr115 e116 xg xt q109 hn117
        exact absurd hn117 (by omega)
      | succ n107 ih108 =>
        intro x3 z111 h112 I113 E114 fr115 e116 xg xt q109 hn117
        obtain ⟨A, cr, cg⟩ := xg
        have tb2 := pt_TC_b xt
        have ty2 := pt_ty_b (t := t) (n := m) (p := (h112 1 3))
        have nb2 := pt_nt_b (t := t) (n := m) (p := (h112 1 3)) (by omega)
        have gA := pt_CR_r cr
        refine ov_blk (ls2 := [(0, ov_r 3), (1, ov_r 58), (2, ov_i 1), (3, ov_i x3)]) (st2 := [ov_i 1000, ov_i x3]) (pc2 := 35) b_24_31_2 rfl rfl ?_
        refine ov_icge (tgt := 63) d_24_35 (by decide) (by omega) (by omega) (fun c118 => ?_) (fun c118 => ?_)
        · skip
          have te : pt_ty t m (h112 1 3) = 0 := by omega
          refine ov_blk (ls2 := [(0, ov_r 3), (1, ov_r 58), (2, ov_i 1), (3, ov_i x3)]) (st2 := [ov_i 1]) (pc2 := 64) b_24_63_1 rfl rfl ?_
          refine ov_ifeq (tgt := 74) d_24_64 (by decide) (by omega) (fun c119 => ?_) (fun c119 => ?_)
          · omega
          · skip
            refine ov_blk (ls2 := [(0, ov_r 3), (1, ov_r 58), (2, ov_i 1), (3, ov_i x3)]) (st2 := [ov_r 3]) (pc2 := 68) b_24_67_1 rfl rfl ?_
            refine ov_getf (v := ov_r 58) d_24_68 fl_Reader_15 (zb_3 I113) (zs_3 I113) (congrArg ov_r e116) ?_
            refine ov_cV (as := []) (st := []) (d2 := d - 1) d_24_71 lk_Reader_43 rfl (Nat.le_of_ble_eq_true rfl) (c := 9) (zb_58 I113) (zs_58 I113) ⟨by decide, rfl⟩ (by omega) (c_fTown_complete_58 (d - 1) (by omega) U I113 (ov_kws hw (by decide +kernel))) ?_
            rintro _ z120 h121 ⟨rfl, I122, y123, f124, y125, y126⟩
            have E127 : h121 1 = h112 1 := Eq.trans (y123 1 (by decide)) (show h112 1 = h112 1 from rfl)
            have E128 : h121 2 = h 2 := Eq.trans (y123 2 (by decide)) (show h112 2 = h 2 from E114)
            have E129 : h121 3 = h112 3 := Eq.trans (y123 3 (by decide)) (show h112 3 = h112 3 from rfl)
            have E130 : h121 58 = h112 58 := Eq.trans (y123 58 (by decide)) (show h112 58 = h112 58 from rfl)
            have E131 : h121 59 = h112 59 := Eq.trans (y123 59 (by decide)) (show h112 59 = h112 59 from rfl)
            have E132 : h121 60 = h112 60 := Eq.trans (y123 60 (by decide)) (show h112 60 = h112 60 from rfl)
            have E133 : h121 61 = h112 61 := Eq.trans (y123 61 (by decide)) (show h112 61 = h112 61 from rfl)
            have E134 : h121 62 = h112 62 := Eq.trans (y123 62 (by decide)) (show h112 62 = h112 62 from rfl)
            have E135 : h121 63 = h112 63 := Eq.trans (y123 63 (by decide)) (show h112 63 = h112 63 from rfl)
            have E136 : h121 66 = h112 66 := Eq.trans (y123 66 (by decide)) (show h112 66 = h112 66 from rfl)
            have fr137 : ∀ a : Int, a ≠ 1 ∧ a ≠ 3 ∧ (a < 58 ∨ 69 < a) → h121 a = h a := fun a ca => Eq.trans (y123 a (by omega)) (fr115 a ca)
            have e138 : h121 3 1 = 58 := Eq.trans (congrFun (show h121 3 = h112 3 from y123 3 (by decide)) 1) e116
            have f139 : 0 ≤ (h121 64 0) := f124
            clear f124
            have y125_ : ((h112 64) 0 = -1 → (h121 64) 0 = 10) ∧ (¬ (h112 64) 0 = -1 → (h121 64) 0 = (h112 64) 0) ∧ ((h112 64) 1 = -1 → (h121 64) 1 = (h121 64) 0) ∧ (¬ (h112 64) 1 = -1 → (h121 64) 1 = (h112 64) 1) ∧ ((h112 64) 2 = -1 → (h121 64) 2 = (h121 64) 0) ∧ (¬ (h112 64) 2 = -1 → (h121 64) 2 = (h112 64) 2) ∧ ((h112 64) 3 = -1 → (h121 64) 3 = 0) ∧ (¬ (h112 64) 3 = -1 → (h121 64) 3 = (h112 64) 3) := y125
            have y126_ : ∀ j : Int, 0 ≤ j → j < 54 → (h121 65) j = tw_opx (h112 58) (h112 59) (h112 60) (h112 62) (h112 63) j := y126
            show ov_R u d ov_m24 74 [(0, ov_r 3), (1, ov_r 58), (2, ov_i 1), (3, ov_i x3)] [] z120 h121 (P_fReader_readTown_3_58 F z h t m)
            refine ov_blk (ls2 := [(0, ov_r 3), (1, ov_r 58), (2, ov_i 1), (3, ov_i x3)]) (st2 := [ov_r 3]) (pc2 := 75) b_24_74_1 rfl rfl ?_
            refine ov_getf (v := ov_r 1) d_24_75 fl_Reader_9 (zb_3 I122) (zs_3 I122) (congrArg ov_r (rg_3_0 I122)) ?_
            refine ov_cV (as := []) (st := []) (d2 := d - 1) d_24_78 lk_Reader_46 rfl (Nat.le_of_ble_eq_true rfl) (c := 8) (zb_1 I122) (zs_1 I122) ⟨by decide, rfl⟩ (by omega) (c_fTape_clear_1 (d - 1) (by omega) U I122 (ov_kws hw (by decide +kernel))) ?_
            rintro _ z140 h141 ⟨rfl, I142, y143, f144⟩
            have E145 : h141 2 = h 2 := Eq.trans (y143 2 (by decide)) (show h121 2 = h 2 from E128)
            have E146 : h141 3 = h112 3 := Eq.trans (y143 3 (by decide)) (show h121 3 = h112 3 from E129)
            have E147 : h141 58 = h112 58 := Eq.trans (y143 58 (by decide)) (show h121 58 = h112 58 from E130)
            have E148 : h141 59 = h112 59 := Eq.trans (y143 59 (by decide)) (show h121 59 = h112 59 from E131)
            have E149 : h141 60 = h112 60 := Eq.trans (y143 60 (by decide)) (show h121 60 = h112 60 from E132)
            have E150 : h141 61 = h112 61 := Eq.trans (y143 61 (by decide)) (show h121 61 = h112 61 from E133)
            have E151 : h141 62 = h112 62 := Eq.trans (y143 62 (by decide)) (show h121 62 = h112 62 from E134)
            have E152 : h141 63 = h112 63 := Eq.trans (y143 63 (by decide)) (show h121 63 = h112 63 from E135)
            have E153 : h141 64 = h121 64 := Eq.trans (y143 64 (by decide)) (show h121 64 = h121 64 from rfl)
            have E154 : h141 66 = h112 66 := Eq.trans (y143 66 (by decide)) (show h121 66 = h112 66 from E136)
            have E155 : h141 65 = h121 65 := Eq.trans (y143 65 (by decide)) (show h121 65 = h121 65 from rfl)
            have fr156 : ∀ a : Int, a ≠ 1 ∧ a ≠ 3 ∧ (a < 58 ∨ 69 < a) → h141 a = h a := fun a ca => Eq.trans (y143 a (by omega)) (fr137 a ca)
            have e157 : h141 3 1 = 58 := Eq.trans (congrFun (show h141 3 = h121 3 from y143 3 (by decide)) 1) e138
            have f158 : (h141 1 1) = 0 := f144
            clear f144
            show ov_R u d ov_m24 81 [(0, ov_r 3), (1, ov_r 58), (2, ov_i 1), (3, ov_i x3)] [] z140 h141 (P_fReader_readTown_3_58 F z h t m)
            refine ov_blk (ls2 := [(0, ov_r 3), (1, ov_r 58), (2, ov_i 1), (3, ov_i x3)]) (st2 := [ov_r 3]) (pc2 := 82) b_24_81_1 rfl rfl ?_
            have e159 : h141 3 2 = (h112 3 2) := congrFun (show h141 3 = h112 3 from E146) 2
            refine ov_getf (v := ov_i (h112 3 2)) d_24_82 fl_Reader_24 (zb_3 I142) (zs_3 I142) (congrArg ov_i e159) ?_
            have g160 := rg_3_2 I142
            rw [e159] at g160
            have q161 : h141 58 0 = h112 58 0 := congrFun (show h141 58 = h112 58 from E147) 0
            have q162 : h141 58 1 = h112 58 1 := congrFun (show h141 58 = h112 58 from E147) 1
            have z0 := pt_CR_0 cr
            have z1 := pt_CR_1 cr
            have q163 : h141 64 0 = h121 64 0 := congrFun E153 0
            have cf164 : h141 58 0 = h112 58 0 := congrFun (E147) 0
            have cf165 : h141 58 1 = h112 58 1 := congrFun (E147) 1
            have cf166 : h141 64 0 = h121 64 0 := congrFun (E153) 0
            exact ov_reti (st := []) d_24_85 rfl ⟨_, rfl, I142, (fun a ca => (fr156 a ca)), ⟨A, (by show (h141 1 1) = 0 ∧ 0 ≤ (h112 3 2) ∧ (h112 3 2) ≤ 2147483647 ∧ ((h112 3 2) = 0 → 0 ≤ (h141 64 0) ∧ 1 ≤ (h141 58 0) ∧ 1 ≤ (h141 58 1)); omega), (by rw [show (h112 3 2) = (0 : Int) by omega]; exact cg 0 A (pt_EG_e (by omega))), (fun _ => ov_TB_cr cr (pt_ET_df (t := t) (m := m) (cg 0 A (pt_EG_e (by omega)))) (show h141 58 = h112 58 from E147) (show h141 59 = h112 59 from E148) (show h141 60 = h112 60 from E149) (show h141 61 = h112 61 from E150) (show h141 62 = h112 62 from E151) (show h141 63 = h112 63 from E152) (by rw [(show h141 64 = h121 64 from E153)]; exact y125_) (by rw [(show h141 58 = h112 58 from E147), (show h141 59 = h112 59 from E148), (show h141 60 = h112 60 from E149), (show h141 62 = h112 62 from E151), (show h141 63 = h112 63 from E152), (show h141 65 = h121 65 from E155)]; exact y126_))⟩⟩
        · skip
          refine ov_blk (ls2 := [(0, ov_r 3), (1, ov_r 58), (2, ov_i 1), (3, ov_i x3)]) (st2 := [ov_i 1]) (pc2 := 39) b_24_38_1 rfl rfl ?_
          refine ov_ifeq (tgt := 63) d_24_39 (by decide) (by omega) (fun c167 => ?_) (fun c167 => ?_)
          · omega
          · skip
            refine ov_blk (ls2 := [(0, ov_r 3), (1, ov_r 58), (2, ov_i 1), (3, ov_i x3)]) (st2 := [ov_r 3]) (pc2 := 43) b_24_42_1 rfl rfl ?_
            refine ov_getf (v := ov_r 1) d_24_43 fl_Reader_9 (zb_3 I113) (zs_3 I113) (congrArg ov_r (rg_3_0 I113)) ?_
            have e168 : h112 1 2 = (pt_ty t m (h112 1 3)) := (pt_TC_t xt)
            refine ov_getf (v := ov_i (pt_ty t m (h112 1 3))) d_24_46 fl_Reader_37 (zb_1 I113) (zs_1 I113) (congrArg ov_i e168) ?_
            have g169 := rg_1_2 I113
            rw [e168] at g169
            refine ov_ifeq (tgt := 63) d_24_49 (by decide) (by omega) (fun c170 => ?_) (fun c170 => ?_)
            · skip
              have te : pt_ty t m (h112 1 3) = 0 := by omega
              refine ov_blk (ls2 := [(0, ov_r 3), (1, ov_r 58), (2, ov_i 1), (3, ov_i x3)]) (st2 := [ov_i 1]) (pc2 := 64) b_24_63_1 rfl rfl ?_
              refine ov_ifeq (tgt := 74) d_24_64 (by decide) (by omega) (fun c171 => ?_) (fun c171 => ?_)
              · omega
              · skip
                refine ov_blk (ls2 := [(0, ov_r 3), (1, ov_r 58), (2, ov_i 1), (3, ov_i x3)]) (st2 := [ov_r 3]) (pc2 := 68) b_24_67_1 rfl rfl ?_
                refine ov_getf (v := ov_r 58) d_24_68 fl_Reader_15 (zb_3 I113) (zs_3 I113) (congrArg ov_r e116) ?_
                refine ov_cV (as := []) (st := []) (d2 := d - 1) d_24_71 lk_Reader_43 rfl (Nat.le_of_ble_eq_true rfl) (c := 9) (zb_58 I113) (zs_58 I113) ⟨by decide, rfl⟩ (by omega) (c_fTown_complete_58 (d - 1) (by omega) U I113 (ov_kws hw (by decide +kernel))) ?_
                rintro _ z172 h173 ⟨rfl, I174, y175, f176, y177, y178⟩
                have E179 : h173 1 = h112 1 := Eq.trans (y175 1 (by decide)) (show h112 1 = h112 1 from rfl)
                have E180 : h173 2 = h 2 := Eq.trans (y175 2 (by decide)) (show h112 2 = h 2 from E114)
                have E181 : h173 3 = h112 3 := Eq.trans (y175 3 (by decide)) (show h112 3 = h112 3 from rfl)
                have E182 : h173 58 = h112 58 := Eq.trans (y175 58 (by decide)) (show h112 58 = h112 58 from rfl)
                have E183 : h173 59 = h112 59 := Eq.trans (y175 59 (by decide)) (show h112 59 = h112 59 from rfl)
                have E184 : h173 60 = h112 60 := Eq.trans (y175 60 (by decide)) (show h112 60 = h112 60 from rfl)
                have E185 : h173 61 = h112 61 := Eq.trans (y175 61 (by decide)) (show h112 61 = h112 61 from rfl)
                have E186 : h173 62 = h112 62 := Eq.trans (y175 62 (by decide)) (show h112 62 = h112 62 from rfl)
                have E187 : h173 63 = h112 63 := Eq.trans (y175 63 (by decide)) (show h112 63 = h112 63 from rfl)
                have E188 : h173 66 = h112 66 := Eq.trans (y175 66 (by decide)) (show h112 66 = h112 66 from rfl)
                have fr189 : ∀ a : Int, a ≠ 1 ∧ a ≠ 3 ∧ (a < 58 ∨ 69 < a) → h173 a = h a := fun a ca => Eq.trans (y175 a (by omega)) (fr115 a ca)
                have e190 : h173 3 1 = 58 := Eq.trans (congrFun (show h173 3 = h112 3 from y175 3 (by decide)) 1) e116
                have f191 : 0 ≤ (h173 64 0) := f176
                clear f176
                have y177_ : ((h112 64) 0 = -1 → (h173 64) 0 = 10) ∧ (¬ (h112 64) 0 = -1 → (h173 64) 0 = (h112 64) 0) ∧ ((h112 64) 1 = -1 → (h173 64) 1 = (h173 64) 0) ∧ (¬ (h112 64) 1 = -1 → (h173 64) 1 = (h112 64) 1) ∧ ((h112 64) 2 = -1 → (h173 64) 2 = (h173 64) 0) ∧ (¬ (h112 64) 2 = -1 → (h173 64) 2 = (h112 64) 2) ∧ ((h112 64) 3 = -1 → (h173 64) 3 = 0) ∧ (¬ (h112 64) 3 = -1 → (h173 64) 3 = (h112 64) 3) := y177
                have y178_ : ∀ j : Int, 0 ≤ j → j < 54 → (h173 65) j = tw_opx (h112 58) (h112 59) (h112 60) (h112 62) (h112 63) j := y178
                show ov_R u d ov_m24 74 [(0, ov_r 3), (1, ov_r 58), (2, ov_i 1), (3, ov_i x3)] [] z172 h173 (P_fReader_readTown_3_58 F z h t m)
                refine ov_blk (ls2 := [(0, ov_r 3), (1, ov_r 58), (2, ov_i 1), (3, ov_i x3)]) (st2 := [ov_r 3]) (pc2 := 75) b_24_74_1 rfl rfl ?_
                refine ov_getf (v := ov_r 1) d_24_75 fl_Reader_9 (zb_3 I174) (zs_3 I174) (congrArg ov_r (rg_3_0 I174)) ?_
                refine ov_cV (as := []) (st := []) (d2 := d - 1) d_24_78 lk_Reader_46 rfl (Nat.le_of_ble_eq_true rfl) (c := 8) (zb_1 I174) (zs_1 I174) ⟨by decide, rfl⟩ (by omega) (c_fTape_clear_1 (d - 1) (by omega) U I174 (ov_kws hw (by decide +kernel))) ?_
                rintro _ z192 h193 ⟨rfl, I194, y195, f196⟩
                have E197 : h193 2 = h 2 := Eq.trans (y195 2 (by decide)) (show h173 2 = h 2 from E180)
                have E198 : h193 3 = h112 3 := Eq.trans (y195 3 (by decide)) (show h173 3 = h112 3 from E181)
                have E199 : h193 58 = h112 58 := Eq.trans (y195 58 (by decide)) (show h173 58 = h112 58 from E182)
                have E200 : h193 59 = h112 59 := Eq.trans (y195 59 (by decide)) (show h173 59 = h112 59 from E183)
                have E201 : h193 60 = h112 60 := Eq.trans (y195 60 (by decide)) (show h173 60 = h112 60 from E184)
                have E202 : h193 61 = h112 61 := Eq.trans (y195 61 (by decide)) (show h173 61 = h112 61 from E185)
                have E203 : h193 62 = h112 62 := Eq.trans (y195 62 (by decide)) (show h173 62 = h112 62 from E186)
                have E204 : h193 63 = h112 63 := Eq.trans (y195 63 (by decide)) (show h173 63 = h112 63 from E187)
                have E205 : h193 64 = h173 64 := Eq.trans (y195 64 (by decide)) (show h173 64 = h173 64 from rfl)
                have E206 : h193 66 = h112 66 := Eq.trans (y195 66 (by decide)) (show h173 66 = h112 66 from E188)
                have E207 : h193 65 = h173 65 := Eq.trans (y195 65 (by decide)) (show h173 65 = h173 65 from rfl)
                have fr208 : ∀ a : Int, a ≠ 1 ∧ a ≠ 3 ∧ (a < 58 ∨ 69 < a) → h193 a = h a := fun a ca => Eq.trans (y195 a (by omega)) (fr189 a ca)
                have e209 : h193 3 1 = 58 := Eq.trans (congrFun (show h193 3 = h173 3 from y195 3 (by decide)) 1) e190
                have f210 : (h193 1 1) = 0 := f196
                clear f196
                show ov_R u d ov_m24 81 [(0, ov_r 3), (1, ov_r 58), (2, ov_i 1), (3, ov_i x3)] [] z192 h193 (P_fReader_readTown_3_58 F z h t m)
                refine ov_blk (ls2 := [(0, ov_r 3), (1, ov_r 58), (2, ov_i 1), (3, ov_i x3)]) (st2 := [ov_r 3]) (pc2 := 82) b_24_81_1 rfl rfl ?_
                have e211 : h193 3 2 = (h112 3 2) := congrFun (show h193 3 = h112 3 from E198) 2
                refine ov_getf (v := ov_i (h112 3 2)) d_24_82 fl_Reader_24 (zb_3 I194) (zs_3 I194) (congrArg ov_i e211) ?_
                have g212 := rg_3_2 I194
                rw [e211] at g212
                have q213 : h193 58 0 = h112 58 0 := congrFun (show h193 58 = h112 58 from E199) 0
                have q214 : h193 58 1 = h112 58 1 := congrFun (show h193 58 = h112 58 from E199) 1
                have z0 := pt_CR_0 cr
                have z1 := pt_CR_1 cr
                have q215 : h193 64 0 = h173 64 0 := congrFun E205 0
                have cf216 : h193 58 0 = h112 58 0 := congrFun (E199) 0
                have cf217 : h193 58 1 = h112 58 1 := congrFun (E199) 1
                have cf218 : h193 64 0 = h173 64 0 := congrFun (E205) 0
                exact ov_reti (st := []) d_24_85 rfl ⟨_, rfl, I194, (fun a ca => (fr208 a ca)), ⟨A, (by show (h193 1 1) = 0 ∧ 0 ≤ (h112 3 2) ∧ (h112 3 2) ≤ 2147483647 ∧ ((h112 3 2) = 0 → 0 ≤ (h193 64 0) ∧ 1 ≤ (h193 58 0) ∧ 1 ≤ (h193 58 1)); omega), (by rw [show (h112 3 2) = (0 : Int) by omega]; exact cg 0 A (pt_EG_e (by omega))), (fun _ => ov_TB_cr cr (pt_ET_df (t := t) (m := m) (cg 0 A (pt_EG_e (by omega)))) (show h193 58 = h112 58 from E199) (show h193 59 = h112 59 from E200) (show h193 60 = h112 60 from E201) (show h193 61 = h112 61 from E202) (show h193 62 = h112 62 from E203) (show h193 63 = h112 63 from E204) (by rw [(show h193 64 = h173 64 from E205)]; exact y177_) (by rw [(show h193 58 = h112 58 from E199), (show h193 59 = h112 59 from E200), (show h193 60 = h112 60 from E201), (show h193 62 = h112 62 from E203), (show h193 63 = h112 63 from E204), (show h193 65 = h173 65 from E207)]; exact y178_))⟩⟩
            · skip
              refine ov_blk (ls2 := [(0, ov_r 3), (1, ov_r 58), (2, ov_i 1), (3, ov_i x3)]) (st2 := [ov_r 3]) (pc2 := 53) b_24_52_1 rfl rfl ?_
              refine ov_cV (as := []) (st := []) (d2 := d - 1) d_24_53 lk_Reader_40 rfl (Nat.le_of_ble_eq_true rfl) (c := 6) (zb_3 I113) (zs_3 I113) ⟨by decide, rfl⟩ (by omega) (c_fReader_readLine_3_k3_1_58 t m (h112 1 3) A (d - 1) (by omega) U I113 (ov_kws hw (by decide +kernel)) e116 (show h112 2 = t from Eq.trans (show h112 2 = h 2 from E114) et) xt cr) ?_
              rintro _ z220 h221 ⟨v219, rfl, I222, y223, y224⟩
              have E225 : h221 2 = h 2 := Eq.trans (y223 2 (by decide)) (show h112 2 = h 2 from E114)
              have E226 : h221 65 = h112 65 := Eq.trans (y223 65 (by decide)) (show h112 65 = h112 65 from rfl)
              have fr227 : ∀ a : Int, a ≠ 1 ∧ a ≠ 3 ∧ (a < 58 ∨ 69 < a) → h221 a = h a := fun a ca => Eq.trans (y223 a (by omega)) (fr115 a ca)
              rcases y224 with ⟨rfl, w229, w230, f231, y232⟩ | ⟨rfl, w233, f234, y235⟩ | ⟨rfl, w236, f237, y238, y239, y240⟩
              · skip
                show ov_R u d ov_m24 56 [(0, ov_r 3), (1, ov_r 58), (2, ov_i 1), (3, ov_i x3)] [ov_i 0] z220 h221 (P_fReader_readTown_3_58 F z h t m)
                have f241 : (h221 3 2) = w229 ∧ 1 ≤ w229 ∧ (h221 3 1) = (h112 3 1) := f231
                clear f231
                have e228 : h221 3 1 = 58 := by omega
                have y232_ : pt_EL t m A (h112 1 3) w229 w230 := y232
                refine ov_blk (ls2 := [(0, ov_r 3), (1, ov_r 58), (2, ov_i 0), (3, ov_i (x3 + 1))]) (st2 := []) (pc2 := 60) b_24_56_2 rfl rfl ?_
                refine ov_goto (tgt := 31) d_24_60 (by decide) ?_
                refine ov_blk (ls2 := [(0, ov_r 3), (1, ov_r 58), (2, ov_i 0), (3, ov_i (x3 + 1))]) (st2 := [ov_i 1000, ov_i (x3 + 1)]) (pc2 := 35) b_24_31_2 rfl rfl ?_
                refine ov_icge (tgt := 63) d_24_35 (by decide) (by omega) (by omega) (fun c242 => ?_) (fun c242 => ?_)
                · skip
                  refine ov_blk (ls2 := [(0, ov_r 3), (1, ov_r 58), (2, ov_i 0), (3, ov_i (x3 + 1))]) (st2 := [ov_i 0]) (pc2 := 64) b_24_63_1 rfl rfl ?_
                  refine ov_ifeq (tgt := 74) d_24_64 (by decide) (by omega) (fun c243 => ?_) (fun c243 => ?_)
                  · skip
                    refine ov_blk (ls2 := [(0, ov_r 3), (1, ov_r 58), (2, ov_i 0), (3, ov_i (x3 + 1))]) (st2 := [ov_r 3]) (pc2 := 75) b_24_74_1 rfl rfl ?_
                    refine ov_getf (v := ov_r 1) d_24_75 fl_Reader_9 (zb_3 I222) (zs_3 I222) (congrArg ov_r (rg_3_0 I222)) ?_
                    refine ov_cV (as := []) (st := []) (d2 := d - 1) d_24_78 lk_Reader_46 rfl (Nat.le_of_ble_eq_true rfl) (c := 8) (zb_1 I222) (zs_1 I222) ⟨by decide, rfl⟩ (by omega) (c_fTape_clear_1 (d - 1) (by omega) U I222 (ov_kws hw (by decide +kernel))) ?_
                    rintro _ z244 h245 ⟨rfl, I246, y247, f248⟩
                    have E249 : h245 2 = h 2 := Eq.trans (y247 2 (by decide)) (show h221 2 = h 2 from E225)
                    have E250 : h245 3 = h221 3 := Eq.trans (y247 3 (by decide)) (show h221 3 = h221 3 from rfl)
                    have E251 : h245 58 = h221 58 := Eq.trans (y247 58 (by decide)) (show h221 58 = h221 58 from rfl)
                    have E252 : h245 59 = h221 59 := Eq.trans (y247 59 (by decide)) (show h221 59 = h221 59 from rfl)
                    have E253 : h245 60 = h221 60 := Eq.trans (y247 60 (by decide)) (show h221 60 = h221 60 from rfl)
                    have E254 : h245 61 = h221 61 := Eq.trans (y247 61 (by decide)) (show h221 61 = h221 61 from rfl)
                    have E255 : h245 62 = h221 62 := Eq.trans (y247 62 (by decide)) (show h221 62 = h221 62 from rfl)
                    have E256 : h245 63 = h221 63 := Eq.trans (y247 63 (by decide)) (show h221 63 = h221 63 from rfl)
                    have E257 : h245 64 = h221 64 := Eq.trans (y247 64 (by decide)) (show h221 64 = h221 64 from rfl)
                    have E258 : h245 66 = h221 66 := Eq.trans (y247 66 (by decide)) (show h221 66 = h221 66 from rfl)
                    have E259 : h245 65 = h112 65 := Eq.trans (y247 65 (by decide)) (show h221 65 = h112 65 from E226)
                    have fr260 : ∀ a : Int, a ≠ 1 ∧ a ≠ 3 ∧ (a < 58 ∨ 69 < a) → h245 a = h a := fun a ca => Eq.trans (y247 a (by omega)) (fr227 a ca)
                    have e261 : h245 3 1 = 58 := Eq.trans (congrFun (show h245 3 = h221 3 from y247 3 (by decide)) 1) e228
                    have f262 : (h245 1 1) = 0 := f248
                    clear f248
                    show ov_R u d ov_m24 81 [(0, ov_r 3), (1, ov_r 58), (2, ov_i 0), (3, ov_i (x3 + 1))] [] z244 h245 (P_fReader_readTown_3_58 F z h t m)
                    refine ov_blk (ls2 := [(0, ov_r 3), (1, ov_r 58), (2, ov_i 0), (3, ov_i (x3 + 1))]) (st2 := [ov_r 3]) (pc2 := 82) b_24_81_1 rfl rfl ?_
                    have e263 : h245 3 2 = (h221 3 2) := congrFun (show h245 3 = h221 3 from E250) 2
                    refine ov_getf (v := ov_i (h221 3 2)) d_24_82 fl_Reader_24 (zb_3 I246) (zs_3 I246) (congrArg ov_i e263) ?_
                    have g264 := rg_3_2 I246
                    rw [e263] at g264
                    have q265 : h245 58 0 = h221 58 0 := congrFun (show h245 58 = h221 58 from E251) 0
                    have q266 : h245 58 1 = h221 58 1 := congrFun (show h245 58 = h221 58 from E251) 1
                    have q267 : h245 64 0 = h221 64 0 := congrFun E257 0
                    have cf268 : h245 58 0 = h221 58 0 := congrFun (E251) 0
                    have cf269 : h245 58 1 = h221 58 1 := congrFun (E251) 1
                    have cf270 : h245 64 0 = h221 64 0 := congrFun (E257) 0
                    exact ov_reti (st := []) d_24_85 rfl ⟨_, rfl, I246, (fun a ca => (fr260 a ca)), ⟨(fun _ => 0), (by show (h245 1 1) = 0 ∧ 0 ≤ (h221 3 2) ∧ (h221 3 2) ≤ 2147483647 ∧ ((h221 3 2) = 0 → 0 ≤ (h245 64 0) ∧ 1 ≤ (h245 58 0) ∧ 1 ≤ (h245 58 1)); omega), (by rw [show (h221 3 2) = w229 by omega]; exact cg _ _ (pt_EG_f (by omega) y232_ (by omega))), (fun e => absurd e (by omega))⟩⟩
                  · omega
                · skip
                  refine ov_blk (ls2 := [(0, ov_r 3), (1, ov_r 58), (2, ov_i 0), (3, ov_i (x3 + 1))]) (st2 := [ov_i 0]) (pc2 := 39) b_24_38_1 rfl rfl ?_
                  refine ov_ifeq (tgt := 63) d_24_39 (by decide) (by omega) (fun c271 => ?_) (fun c271 => ?_)
                  · skip
                    refine ov_blk (ls2 := [(0, ov_r 3), (1, ov_r 58), (2, ov_i 0), (3, ov_i (x3 + 1))]) (st2 := [ov_i 0]) (pc2 := 64) b_24_63_1 rfl rfl ?_
                    refine ov_ifeq (tgt := 74) d_24_64 (by decide) (by omega) (fun c272 => ?_) (fun c272 => ?_)
                    · skip
                      refine ov_blk (ls2 := [(0, ov_r 3), (1, ov_r 58), (2, ov_i 0), (3, ov_i (x3 + 1))]) (st2 := [ov_r 3]) (pc2 := 75) b_24_74_1 rfl rfl ?_
                      refine ov_getf (v := ov_r 1) d_24_75 fl_Reader_9 (zb_3 I222) (zs_3 I222) (congrArg ov_r (rg_3_0 I222)) ?_
                      refine ov_cV (as := []) (st := []) (d2 := d - 1) d_24_78 lk_Reader_46 rfl (Nat.le_of_ble_eq_true rfl) (c := 8) (zb_1 I222) (zs_1 I222) ⟨by decide, rfl⟩ (by omega) (c_fTape_clear_1 (d - 1) (by omega) U I222 (ov_kws hw (by decide +kernel))) ?_
                      rintro _ z273 h274 ⟨rfl, I275, y276, f277⟩
                      have E278 : h274 2 = h 2 := Eq.trans (y276 2 (by decide)) (show h221 2 = h 2 from E225)
                      have E279 : h274 3 = h221 3 := Eq.trans (y276 3 (by decide)) (show h221 3 = h221 3 from rfl)
                      have E280 : h274 58 = h221 58 := Eq.trans (y276 58 (by decide)) (show h221 58 = h221 58 from rfl)
                      have E281 : h274 59 = h221 59 := Eq.trans (y276 59 (by decide)) (show h221 59 = h221 59 from rfl)
                      have E282 : h274 60 = h221 60 := Eq.trans (y276 60 (by decide)) (show h221 60 = h221 60 from rfl)
                      have E283 : h274 61 = h221 61 := Eq.trans (y276 61 (by decide)) (show h221 61 = h221 61 from rfl)
                      have E284 : h274 62 = h221 62 := Eq.trans (y276 62 (by decide)) (show h221 62 = h221 62 from rfl)
                      have E285 : h274 63 = h221 63 := Eq.trans (y276 63 (by decide)) (show h221 63 = h221 63 from rfl)
                      have E286 : h274 64 = h221 64 := Eq.trans (y276 64 (by decide)) (show h221 64 = h221 64 from rfl)
                      have E287 : h274 66 = h221 66 := Eq.trans (y276 66 (by decide)) (show h221 66 = h221 66 from rfl)
                      have E288 : h274 65 = h112 65 := Eq.trans (y276 65 (by decide)) (show h221 65 = h112 65 from E226)
                      have fr289 : ∀ a : Int, a ≠ 1 ∧ a ≠ 3 ∧ (a < 58 ∨ 69 < a) → h274 a = h a := fun a ca => Eq.trans (y276 a (by omega)) (fr227 a ca)
                      have e290 : h274 3 1 = 58 := Eq.trans (congrFun (show h274 3 = h221 3 from y276 3 (by decide)) 1) e228
                      have f291 : (h274 1 1) = 0 := f277
                      clear f277
                      show ov_R u d ov_m24 81 [(0, ov_r 3), (1, ov_r 58), (2, ov_i 0), (3, ov_i (x3 + 1))] [] z273 h274 (P_fReader_readTown_3_58 F z h t m)
                      refine ov_blk (ls2 := [(0, ov_r 3), (1, ov_r 58), (2, ov_i 0), (3, ov_i (x3 + 1))]) (st2 := [ov_r 3]) (pc2 := 82) b_24_81_1 rfl rfl ?_
                      have e292 : h274 3 2 = (h221 3 2) := congrFun (show h274 3 = h221 3 from E279) 2
                      refine ov_getf (v := ov_i (h221 3 2)) d_24_82 fl_Reader_24 (zb_3 I275) (zs_3 I275) (congrArg ov_i e292) ?_
                      have g293 := rg_3_2 I275
                      rw [e292] at g293
                      have q294 : h274 58 0 = h221 58 0 := congrFun (show h274 58 = h221 58 from E280) 0
                      have q295 : h274 58 1 = h221 58 1 := congrFun (show h274 58 = h221 58 from E280) 1
                      have q296 : h274 64 0 = h221 64 0 := congrFun E286 0
                      have cf297 : h274 58 0 = h221 58 0 := congrFun (E280) 0
                      have cf298 : h274 58 1 = h221 58 1 := congrFun (E280) 1
                      have cf299 : h274 64 0 = h221 64 0 := congrFun (E286) 0
                      exact ov_reti (st := []) d_24_85 rfl ⟨_, rfl, I275, (fun a ca => (fr289 a ca)), ⟨(fun _ => 0), (by show (h274 1 1) = 0 ∧ 0 ≤ (h221 3 2) ∧ (h221 3 2) ≤ 2147483647 ∧ ((h221 3 2) = 0 → 0 ≤ (h274 64 0) ∧ 1 ≤ (h274 58 0) ∧ 1 ≤ (h274 58 1)); omega), (by rw [show (h221 3 2) = w229 by omega]; exact cg _ _ (pt_EG_f (by omega) y232_ (by omega))), (fun e => absurd e (by omega))⟩⟩
                    · omega
                  · omega
              · skip
                show ov_R u d ov_m24 56 [(0, ov_r 3), (1, ov_r 58), (2, ov_i 1), (3, ov_i x3)] [ov_i 0] z220 h221 (P_fReader_readTown_3_58 F z h t m)
                have f300 : (pt_is t m w233 59) = 0 ∧ (h221 3 2) = 1 + 16 * w233 ∧ 0 ≤ w233 ∧ (h221 3 1) = (h112 3 1) := f234
                clear f234
                have e228 : h221 3 1 = 58 := by omega
                have y235_ : pt_EL t m A (h112 1 3) 0 w233 := y235
                refine ov_blk (ls2 := [(0, ov_r 3), (1, ov_r 58), (2, ov_i 0), (3, ov_i (x3 + 1))]) (st2 := []) (pc2 := 60) b_24_56_2 rfl rfl ?_
                refine ov_goto (tgt := 31) d_24_60 (by decide) ?_
                refine ov_blk (ls2 := [(0, ov_r 3), (1, ov_r 58), (2, ov_i 0), (3, ov_i (x3 + 1))]) (st2 := [ov_i 1000, ov_i (x3 + 1)]) (pc2 := 35) b_24_31_2 rfl rfl ?_
                refine ov_icge (tgt := 63) d_24_35 (by decide) (by omega) (by omega) (fun c301 => ?_) (fun c301 => ?_)
                · skip
                  refine ov_blk (ls2 := [(0, ov_r 3), (1, ov_r 58), (2, ov_i 0), (3, ov_i (x3 + 1))]) (st2 := [ov_i 0]) (pc2 := 64) b_24_63_1 rfl rfl ?_
                  refine ov_ifeq (tgt := 74) d_24_64 (by decide) (by omega) (fun c302 => ?_) (fun c302 => ?_)
                  · skip
                    refine ov_blk (ls2 := [(0, ov_r 3), (1, ov_r 58), (2, ov_i 0), (3, ov_i (x3 + 1))]) (st2 := [ov_r 3]) (pc2 := 75) b_24_74_1 rfl rfl ?_
                    refine ov_getf (v := ov_r 1) d_24_75 fl_Reader_9 (zb_3 I222) (zs_3 I222) (congrArg ov_r (rg_3_0 I222)) ?_
                    refine ov_cV (as := []) (st := []) (d2 := d - 1) d_24_78 lk_Reader_46 rfl (Nat.le_of_ble_eq_true rfl) (c := 8) (zb_1 I222) (zs_1 I222) ⟨by decide, rfl⟩ (by omega) (c_fTape_clear_1 (d - 1) (by omega) U I222 (ov_kws hw (by decide +kernel))) ?_
                    rintro _ z303 h304 ⟨rfl, I305, y306, f307⟩
                    have E308 : h304 2 = h 2 := Eq.trans (y306 2 (by decide)) (show h221 2 = h 2 from E225)
                    have E309 : h304 3 = h221 3 := Eq.trans (y306 3 (by decide)) (show h221 3 = h221 3 from rfl)
                    have E310 : h304 58 = h221 58 := Eq.trans (y306 58 (by decide)) (show h221 58 = h221 58 from rfl)
                    have E311 : h304 59 = h221 59 := Eq.trans (y306 59 (by decide)) (show h221 59 = h221 59 from rfl)
                    have E312 : h304 60 = h221 60 := Eq.trans (y306 60 (by decide)) (show h221 60 = h221 60 from rfl)
                    have E313 : h304 61 = h221 61 := Eq.trans (y306 61 (by decide)) (show h221 61 = h221 61 from rfl)
                    have E314 : h304 62 = h221 62 := Eq.trans (y306 62 (by decide)) (show h221 62 = h221 62 from rfl)
                    have E315 : h304 63 = h221 63 := Eq.trans (y306 63 (by decide)) (show h221 63 = h221 63 from rfl)
                    have E316 : h304 64 = h221 64 := Eq.trans (y306 64 (by decide)) (show h221 64 = h221 64 from rfl)
                    have E317 : h304 66 = h221 66 := Eq.trans (y306 66 (by decide)) (show h221 66 = h221 66 from rfl)
                    have E318 : h304 65 = h112 65 := Eq.trans (y306 65 (by decide)) (show h221 65 = h112 65 from E226)
                    have fr319 : ∀ a : Int, a ≠ 1 ∧ a ≠ 3 ∧ (a < 58 ∨ 69 < a) → h304 a = h a := fun a ca => Eq.trans (y306 a (by omega)) (fr227 a ca)
                    have e320 : h304 3 1 = 58 := Eq.trans (congrFun (show h304 3 = h221 3 from y306 3 (by decide)) 1) e228
                    have f321 : (h304 1 1) = 0 := f307
                    clear f307
                    show ov_R u d ov_m24 81 [(0, ov_r 3), (1, ov_r 58), (2, ov_i 0), (3, ov_i (x3 + 1))] [] z303 h304 (P_fReader_readTown_3_58 F z h t m)
                    refine ov_blk (ls2 := [(0, ov_r 3), (1, ov_r 58), (2, ov_i 0), (3, ov_i (x3 + 1))]) (st2 := [ov_r 3]) (pc2 := 82) b_24_81_1 rfl rfl ?_
                    have e322 : h304 3 2 = (h221 3 2) := congrFun (show h304 3 = h221 3 from E309) 2
                    refine ov_getf (v := ov_i (h221 3 2)) d_24_82 fl_Reader_24 (zb_3 I305) (zs_3 I305) (congrArg ov_i e322) ?_
                    have g323 := rg_3_2 I305
                    rw [e322] at g323
                    have q324 : h304 58 0 = h221 58 0 := congrFun (show h304 58 = h221 58 from E310) 0
                    have q325 : h304 58 1 = h221 58 1 := congrFun (show h304 58 = h221 58 from E310) 1
                    have q326 : h304 64 0 = h221 64 0 := congrFun E316 0
                    have cf327 : h304 58 0 = h221 58 0 := congrFun (E310) 0
                    have cf328 : h304 58 1 = h221 58 1 := congrFun (E310) 1
                    have cf329 : h304 64 0 = h221 64 0 := congrFun (E316) 0
                    exact ov_reti (st := []) d_24_85 rfl ⟨_, rfl, I305, (fun a ca => (fr319 a ca)), ⟨(fun _ => 0), (by show (h304 1 1) = 0 ∧ 0 ≤ (h221 3 2) ∧ (h221 3 2) ≤ 2147483647 ∧ ((h221 3 2) = 0 → 0 ≤ (h304 64 0) ∧ 1 ≤ (h304 58 0) ∧ 1 ≤ (h304 58 1)); omega), (by rw [show (h221 3 2) = 1 + 16 * w233 by omega]; exact cg _ _ (pt_EG_s (by omega) y235_ (by omega) (by omega))), (fun e => absurd e (by omega))⟩⟩
                  · omega
                · skip
                  refine ov_blk (ls2 := [(0, ov_r 3), (1, ov_r 58), (2, ov_i 0), (3, ov_i (x3 + 1))]) (st2 := [ov_i 0]) (pc2 := 39) b_24_38_1 rfl rfl ?_
                  refine ov_ifeq (tgt := 63) d_24_39 (by decide) (by omega) (fun c330 => ?_) (fun c330 => ?_)
                  · skip
                    refine ov_blk (ls2 := [(0, ov_r 3), (1, ov_r 58), (2, ov_i 0), (3, ov_i (x3 + 1))]) (st2 := [ov_i 0]) (pc2 := 64) b_24_63_1 rfl rfl ?_
                    refine ov_ifeq (tgt := 74) d_24_64 (by decide) (by omega) (fun c331 => ?_) (fun c331 => ?_)
                    · skip
                      refine ov_blk (ls2 := [(0, ov_r 3), (1, ov_r 58), (2, ov_i 0), (3, ov_i (x3 + 1))]) (st2 := [ov_r 3]) (pc2 := 75) b_24_74_1 rfl rfl ?_
                      refine ov_getf (v := ov_r 1) d_24_75 fl_Reader_9 (zb_3 I222) (zs_3 I222) (congrArg ov_r (rg_3_0 I222)) ?_
                      refine ov_cV (as := []) (st := []) (d2 := d - 1) d_24_78 lk_Reader_46 rfl (Nat.le_of_ble_eq_true rfl) (c := 8) (zb_1 I222) (zs_1 I222) ⟨by decide, rfl⟩ (by omega) (c_fTape_clear_1 (d - 1) (by omega) U I222 (ov_kws hw (by decide +kernel))) ?_
                      rintro _ z332 h333 ⟨rfl, I334, y335, f336⟩
                      have E337 : h333 2 = h 2 := Eq.trans (y335 2 (by decide)) (show h221 2 = h 2 from E225)
                      have E338 : h333 3 = h221 3 := Eq.trans (y335 3 (by decide)) (show h221 3 = h221 3 from rfl)
                      have E339 : h333 58 = h221 58 := Eq.trans (y335 58 (by decide)) (show h221 58 = h221 58 from rfl)
                      have E340 : h333 59 = h221 59 := Eq.trans (y335 59 (by decide)) (show h221 59 = h221 59 from rfl)
                      have E341 : h333 60 = h221 60 := Eq.trans (y335 60 (by decide)) (show h221 60 = h221 60 from rfl)
                      have E342 : h333 61 = h221 61 := Eq.trans (y335 61 (by decide)) (show h221 61 = h221 61 from rfl)
                      have E343 : h333 62 = h221 62 := Eq.trans (y335 62 (by decide)) (show h221 62 = h221 62 from rfl)
                      have E344 : h333 63 = h221 63 := Eq.trans (y335 63 (by decide)) (show h221 63 = h221 63 from rfl)
                      have E345 : h333 64 = h221 64 := Eq.trans (y335 64 (by decide)) (show h221 64 = h221 64 from rfl)
                      have E346 : h333 66 = h221 66 := Eq.trans (y335 66 (by decide)) (show h221 66 = h221 66 from rfl)
                      have E347 : h333 65 = h112 65 := Eq.trans (y335 65 (by decide)) (show h221 65 = h112 65 from E226)
                      have fr348 : ∀ a : Int, a ≠ 1 ∧ a ≠ 3 ∧ (a < 58 ∨ 69 < a) → h333 a = h a := fun a ca => Eq.trans (y335 a (by omega)) (fr227 a ca)
                      have e349 : h333 3 1 = 58 := Eq.trans (congrFun (show h333 3 = h221 3 from y335 3 (by decide)) 1) e228
                      have f350 : (h333 1 1) = 0 := f336
                      clear f336
                      show ov_R u d ov_m24 81 [(0, ov_r 3), (1, ov_r 58), (2, ov_i 0), (3, ov_i (x3 + 1))] [] z332 h333 (P_fReader_readTown_3_58 F z h t m)
                      refine ov_blk (ls2 := [(0, ov_r 3), (1, ov_r 58), (2, ov_i 0), (3, ov_i (x3 + 1))]) (st2 := [ov_r 3]) (pc2 := 82) b_24_81_1 rfl rfl ?_
                      have e351 : h333 3 2 = (h221 3 2) := congrFun (show h333 3 = h221 3 from E338) 2
                      refine ov_getf (v := ov_i (h221 3 2)) d_24_82 fl_Reader_24 (zb_3 I334) (zs_3 I334) (congrArg ov_i e351) ?_
                      have g352 := rg_3_2 I334
                      rw [e351] at g352
                      have q353 : h333 58 0 = h221 58 0 := congrFun (show h333 58 = h221 58 from E339) 0
                      have q354 : h333 58 1 = h221 58 1 := congrFun (show h333 58 = h221 58 from E339) 1
                      have q355 : h333 64 0 = h221 64 0 := congrFun E345 0
                      have cf356 : h333 58 0 = h221 58 0 := congrFun (E339) 0
                      have cf357 : h333 58 1 = h221 58 1 := congrFun (E339) 1
                      have cf358 : h333 64 0 = h221 64 0 := congrFun (E345) 0
                      exact ov_reti (st := []) d_24_85 rfl ⟨_, rfl, I334, (fun a ca => (fr348 a ca)), ⟨(fun _ => 0), (by show (h333 1 1) = 0 ∧ 0 ≤ (h221 3 2) ∧ (h221 3 2) ≤ 2147483647 ∧ ((h221 3 2) = 0 → 0 ≤ (h333 64 0) ∧ 1 ≤ (h333 58 0) ∧ 1 ≤ (h333 58 1)); omega), (by rw [show (h221 3 2) = 1 + 16 * w233 by omega]; exact cg _ _ (pt_EG_s (by omega) y235_ (by omega) (by omega))), (fun e => absurd e (by omega))⟩⟩
                    · omega
                  · omega
              · skip
                show ov_R u d ov_m24 56 [(0, ov_r 3), (1, ov_r 58), (2, ov_i 1), (3, ov_i x3)] [ov_i 1] z220 h221 (P_fReader_readTown_3_58 F z h t m)
                have f359 : (pt_is t m w236 59) = 1 ∧ (h112 1 3) ≤ w236 ∧ w236 ≤ m ∧ (h221 3 1) = (h112 3 1) ∧ (h221 3 2) = (h112 3 2) := f237
                clear f237
                have e228 : h221 3 1 = 58 := by omega
                have y238_ : pt_EL t m A (h112 1 3) 0 w236 := y238
                have y239_ : pt_TC t m (h221 1) (pt_nt t m w236) := y239
                have g360 := pt_TC_b y239_
                have g361 := pt_nt_le (t := t) (n := m) (p := w236) (by omega)
                have y240_ : pt_CR t m (pt_LA t m A (h112 1 3)) (h221 58) (h221 59) (h221 60) (h221 61) (h221 62) (h221 63) (h221 64) (h221 66) := y240
                have g362 := pt_is_n (t := t) (m := m) (p := w236) (c := 59) (by omega)
                refine ov_blk (ls2 := [(0, ov_r 3), (1, ov_r 58), (2, ov_i 1), (3, ov_i (x3 + 1))]) (st2 := []) (pc2 := 60) b_24_56_2 rfl rfl ?_
                refine ov_goto (tgt := 31) d_24_60 (by decide) ?_
                have g363 : (h221 1 3) = (pt_nt t m w236) := pt_TC_p y239_
                exact ih108 (x3 + 1) _ _ I222 E225 (fun a ca => (fr227 a ca)) e228 (⟨(pt_LA t m A (h112 1 3)), y240_, fun f B e => cg f B (pt_EG_n (by omega) y238_ (by omega) (by rw [show h221 1 3 = (pt_nt t m w236) from pt_TC_p y239_] at e; exact e))⟩) (by rw [pt_TC_p y239_]; exact y239_) (by show (x3 + 1) ≤ (h221 1 3) ∧ (h221 1 3) ≤ m ∧ 0 ≤ (x3 + 1) ∧ (x3 + 1) ≤ 1000 ∧ (h221 3 2) = 0; omega) (by omega)
    exact L110 1001 0 _ _ I51 E54 (fun a ca => (fr63 a ca)) e64 (⟨(pt_A0 (pt_nm t m (pt_nt t m (pt_rn pt_bB t m 0))) (pt_nm t m (pt_nt t m (pt_nt t m (pt_rn pt_bB t m 0))))), pt_CR_first (by omega) (by omega) (by rw [show h50 58 = _ from y68_, ov_rs_ne (by decide), ov_rs_eq]) (by rw [show h50 58 = _ from y68_, ov_rs_eq]) (by rw [show h50 58 = _ from y68_, ov_rs_ne (by decide), ov_rs_ne (by decide)]; omega) (by rw [show h50 58 = _ from y68_, ov_rs_ne (by decide), ov_rs_ne (by decide)]; omega) (by rw [show h50 58 = _ from y68_, ov_rs_ne (by decide), ov_rs_ne (by decide)]; omega) (by rw [show h50 58 = _ from y68_, ov_rs_ne (by decide), ov_rs_ne (by decide)]; omega) (fun c a b => by rw [show h50 59 = h3 59 from E55]; exact y7_ c a b) (fun c a b => by rw [show h50 63 = h3 63 from E59]; exact y8_ c a b) (fun c a b => by rw [show h50 64 = h3 64 from E60]; exact y9_ c a b), fun f B e => Or.inr ⟨by omega, by rw [show h50 1 3 = (pt_nt t m (pt_nt t m (pt_nt t m (pt_nt t m (pt_rn pt_bB t m 0))))) from pt_TC_p y67_] at e; exact e⟩⟩) (by rw [pt_TC_p y67_]; exact y67_) (by show 0 ≤ (h50 1 3) ∧ (h50 1 3) ≤ m ∧ 0 ≤ 0 ∧ 0 ≤ 1000 ∧ (h50 3 2) = 0; omega) (by omega)

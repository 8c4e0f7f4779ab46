abbrev P_fReader_readTown_3_70 (F : ov_H) (z : ov_Z) (h : ov_H) (t : Int → Int) (m : Int) : Option ov_V → ov_Z → ov_H → Prop := fun r0 z' h' => ∃ r : Int, r0 = some (ov_i r) ∧ ov_I F z' h' ∧ (∀ a : Int, a ≠ 1 ∧ a ≠ 3 ∧ (a < 70 ∨ 81 < a) → h' a = h a) ∧ ((∃ B : Int → Int, ((h' 1 1) = 0 ∧ 0 ≤ r ∧ r ≤ 2147483647 ∧ (r = 0 → 0 ≤ (h' 76 0) ∧ 1 ≤ (h' 70 0) ∧ 1 ≤ (h' 70 1))) ∧ (pt_ET t m r B)))
set_option maxHeartbeats 4000000 in
theorem c_fReader_readTown_3_70 {u : ov_U} {F : ov_H} (t : Int → Int) (m : Int) {z : ov_Z} {h : ov_H} (d : Nat) (hd : 42 ≤ d) (U : ov_cap u) (I : ov_I F z h) (hw : ov_kw 2416671047608540938108938 F) (p0 : (h 1 1) = m) (p1 : 0 ≤ m ∧ m ≤ 1000) (et : (h 2) = t) : ov_T u d ov_m24 [ov_r 3, ov_r 70] z h (P_fReader_readTown_3_70 F z h t m) := by
  refine ov_en rfl (Nat.le_of_ble_eq_true rfl) ?_
  show ov_R u d ov_m24 0 [(0, ov_r 3), (1, ov_r 70)] [] z h (P_fReader_readTown_3_70 F z h t m)
  refine ov_blk (ls2 := [(0, ov_r 3), (1, ov_r 70)]) (st2 := [ov_r 70, ov_r 3]) (pc2 := 2) b_24_0_2 rfl rfl ?_
  refine ov_putf (x := 70) d_24_2 fl_Reader_15 (zb_3 I) (zs_3 I) rfl nk_2 rfl ?_
  have I1 := up_3_1 (x := 70) I (by omega) (hw 3 (by decide +kernel))
  show ov_R u d ov_m24 5 [(0, ov_r 3), (1, ov_r 70)] [] z (ov_up h 3 1 70) (P_fReader_readTown_3_70 F z h t m)
  refine ov_blk (ls2 := [(0, ov_r 3), (1, ov_r 70)]) (st2 := [ov_r 3]) (pc2 := 6) b_24_5_1 rfl rfl ?_
  refine ov_getf (v := ov_r 70) d_24_6 fl_Reader_15 (zb_3 I1) (zs_3 I1) rfl ?_
  refine ov_cV (as := []) (st := []) (d2 := d - 1) d_24_9 lk_Reader_19 rfl (Nat.le_of_ble_eq_true rfl) (c := 9) (zb_70 I1) (zs_70 I1) ⟨by decide, rfl⟩ (by omega) (c_fTown_clear_70 (d - 1) (by omega) U I1 (ov_kws hw (by decide +kernel))) ?_
  rintro _ z2 h3 ⟨rfl, I4, y5, f6, y7, y8, y9⟩
  have E10 : h3 1 = h 1 := Eq.trans (y5 1 (by decide)) (show (ov_up h 3 1 70) 1 = h 1 from rfl)
  have E11 : h3 2 = h 2 := Eq.trans (y5 2 (by decide)) (show (ov_up h 3 1 70) 2 = h 2 from rfl)
  have R13 : h3 3 = (ov_rs (h 3) 1 70) := Eq.trans (y5 3 (by decide)) (Eq.trans (ov_up_row h 3 1 70) (congrArg (fun f => ov_rs f 1 70) rfl))
  have E14 : h3 72 = h 72 := Eq.trans (y5 72 (by decide)) (show (ov_up h 3 1 70) 72 = h 72 from rfl)
  have E15 : h3 73 = h 73 := Eq.trans (y5 73 (by decide)) (show (ov_up h 3 1 70) 73 = h 73 from rfl)
  have E16 : h3 74 = h 74 := Eq.trans (y5 74 (by decide)) (show (ov_up h 3 1 70) 74 = h 74 from rfl)
  have E17 : h3 78 = h 78 := Eq.trans (y5 78 (by decide)) (show (ov_up h 3 1 70) 78 = h 78 from rfl)
  have fr18 : ∀ a : Int, a ≠ 1 ∧ a ≠ 3 ∧ (a < 70 ∨ 81 < a) → h3 a = h a := fun a ca => Eq.trans (y5 a (by omega)) (Eq.trans (by show (ov_up h 3 1 70) a = h a; rw [ov_up_ne (by omega)]) rfl)
  have e19 : h3 3 1 = 70 := Eq.trans (congrFun (show h3 3 = (ov_up h 3 1 70) 3 from y5 3 (by decide)) 1) rfl
  have f20 : (h3 70 0) = 1 ∧ (h3 70 1) = 1 ∧ (h3 70 8) = 0 ∧ (h3 70 9) = 0 ∧ (h3 70 10) = 1 ∧ (h3 70 11) = 0 := f6
  clear f6
  have y7_ : ∀ k : Int, 0 ≤ k → k < 54 → (h3 71) k = -1 := y7
  have y8_ : ∀ k : Int, 0 ≤ k → k < 54 → (h3 75) k = 0 := y8
  have y9_ : ∀ k : Int, 0 ≤ k → k < 4 → (h3 76) k = -1 := y9
  show ov_R u d ov_m24 12 [(0, ov_r 3), (1, ov_r 70)] [] z2 h3 (P_fReader_readTown_3_70 F z h t m)
  refine ov_blk (ls2 := [(0, ov_r 3), (1, ov_r 70)]) (st2 := [ov_i 0, ov_r 3]) (pc2 := 14) b_24_12_2 rfl rfl ?_
  refine ov_putf (x := 0) d_24_14 fl_Reader_24 (zb_3 I4) (zs_3 I4) rfl nk_0 rfl ?_
  have I21 := up_3_2 (x := 0) I4 (by omega) (hw 3 (by decide +kernel))
  show ov_R u d ov_m24 17 [(0, ov_r 3), (1, ov_r 70)] [] z2 (ov_up h3 3 2 0) (P_fReader_readTown_3_70 F z h t m)
  refine ov_blk (ls2 := [(0, ov_r 3), (1, ov_r 70)]) (st2 := [ov_r 3]) (pc2 := 18) b_24_17_1 rfl rfl ?_
  refine ov_getf (v := ov_r 1) d_24_18 fl_Reader_9 (zb_3 I21) (zs_3 I21) (congrArg ov_r (rg_3_0 I21)) ?_
  have cf22 : h3 1 (1) = h 1 (1) := congrFun E10 (1)
  refine ov_cV (as := []) (st := []) (d2 := d - 1) d_24_21 lk_Reader_28 rfl (Nat.le_of_ble_eq_true rfl) (c := 8) (zb_1 I21) (zs_1 I21) ⟨by decide, rfl⟩ (by omega) (c_fTape_begin_1 t m (d - 1) (by omega) U I21 (ov_kws hw (by decide +kernel)) (by show (h3 1 1) = m; omega) (by show 0 ≤ m ∧ m ≤ 1000; omega) (show (ov_up h3 3 2 0) 2 = t from Eq.trans (show (ov_up h3 3 2 0) 2 = h 2 from E11) et)) ?_
  rintro _ z23 h24 ⟨rfl, I25, y26, y27⟩
  have E28 : h24 2 = h 2 := Eq.trans (y26 2 (by decide)) (show (ov_up h3 3 2 0) 2 = h 2 from E11)
  have R30 : h24 3 = (ov_rs (ov_rs (h 3) 1 70) 2 0) := Eq.trans (y26 3 (by decide)) (Eq.trans (ov_up_row h3 3 2 0) (congrArg (fun f => ov_rs f 2 0) R13))
  have E31 : h24 70 = h3 70 := Eq.trans (y26 70 (by decide)) (show (ov_up h3 3 2 0) 70 = h3 70 from rfl)
  have E32 : h24 71 = h3 71 := Eq.trans (y26 71 (by decide)) (show (ov_up h3 3 2 0) 71 = h3 71 from rfl)
  have E33 : h24 72 = h 72 := Eq.trans (y26 72 (by decide)) (show (ov_up h3 3 2 0) 72 = h 72 from E14)
  have E34 : h24 73 = h 73 := Eq.trans (y26 73 (by decide)) (show (ov_up h3 3 2 0) 73 = h 73 from E15)
  have E35 : h24 74 = h 74 := Eq.trans (y26 74 (by decide)) (show (ov_up h3 3 2 0) 74 = h 74 from E16)
  have E36 : h24 75 = h3 75 := Eq.trans (y26 75 (by decide)) (show (ov_up h3 3 2 0) 75 = h3 75 from rfl)
  have E37 : h24 76 = h3 76 := Eq.trans (y26 76 (by decide)) (show (ov_up h3 3 2 0) 76 = h3 76 from rfl)
  have E38 : h24 78 = h 78 := Eq.trans (y26 78 (by decide)) (show (ov_up h3 3 2 0) 78 = h 78 from E17)
  have fr39 : ∀ a : Int, a ≠ 1 ∧ a ≠ 3 ∧ (a < 70 ∨ 81 < a) → h24 a = h a := fun a ca => Eq.trans (y26 a (by omega)) (Eq.trans (by show (ov_up h3 3 2 0) a = h3 a; rw [ov_up_ne (by omega)]) (fr18 a ca))
  have e40 : h24 3 1 = 70 := Eq.trans (congrFun (show h24 3 = (ov_up h3 3 2 0) 3 from y26 3 (by decide)) 1) e19
  have y27_ : pt_TC t m (h24 1) (pt_rn pt_bB t m 0) := y27
  have g41 := pt_TC_b y27_
  show ov_R u d ov_m24 24 [(0, ov_r 3), (1, ov_r 70)] [] z23 h24 (P_fReader_readTown_3_70 F z h t m)
  have f32 : h24 3 2 = 0 := by rw [show h24 3 = (ov_rs (ov_rs (h 3) 1 70) 2 0) from R30]; exact ov_rs_eq _ _ _
  have cf42 : h24 70 8 = h3 70 8 := congrFun E31 8
  have cf43 : h24 70 9 = h3 70 9 := congrFun E31 9
  have cf44 : h24 70 10 = h3 70 10 := congrFun E31 10
  have cf45 : h24 70 11 = h3 70 11 := congrFun E31 11
  refine ov_blk (ls2 := [(0, ov_r 3), (1, ov_r 70)]) (st2 := [ov_r 3]) (pc2 := 25) b_24_24_1 rfl rfl ?_
  refine ov_cV (as := []) (st := []) (d2 := d - 1) d_24_25 lk_Reader_33 rfl (Nat.le_of_ble_eq_true rfl) (c := 6) (zb_3 I25) (zs_3 I25) ⟨by decide, rfl⟩ (by omega) (c_fReader_readSize_3_k3_1_70 t m (pt_rn pt_bB t m 0) (d - 1) (by omega) U I25 (ov_kws hw (by decide +kernel)) e40 (show h24 2 = t from Eq.trans (show h24 2 = h 2 from E28) et) y27_) ?_
  rintro _ z47 h48 ⟨v46, rfl, I49, y50, y51⟩
  have E52 : h48 2 = h 2 := Eq.trans (y50 2 (by decide)) (show h24 2 = h 2 from E28)
  have E53 : h48 71 = h3 71 := Eq.trans (y50 71 (by decide)) (show h24 71 = h3 71 from E32)
  have E54 : h48 72 = h 72 := Eq.trans (y50 72 (by decide)) (show h24 72 = h 72 from E33)
  have E55 : h48 73 = h 73 := Eq.trans (y50 73 (by decide)) (show h24 73 = h 73 from E34)
  have E56 : h48 74 = h 74 := Eq.trans (y50 74 (by decide)) (show h24 74 = h 74 from E35)
  have E57 : h48 75 = h3 75 := Eq.trans (y50 75 (by decide)) (show h24 75 = h3 75 from E36)
  have E58 : h48 76 = h3 76 := Eq.trans (y50 76 (by decide)) (show h24 76 = h3 76 from E37)
  have E59 : h48 78 = h 78 := Eq.trans (y50 78 (by decide)) (show h24 78 = h 78 from E38)
  have fr60 : ∀ a : Int, a ≠ 1 ∧ a ≠ 3 ∧ (a < 70 ∨ 81 < a) → h48 a = h a := fun a ca => Eq.trans (y50 a (by omega)) (fr39 a ca)
  rcases y51 with ⟨rfl, f62⟩ | ⟨rfl, f63, y64, y65⟩
  · skip
    show ov_R u d ov_m24 28 [(0, ov_r 3), (1, ov_r 70)] [ov_i 0] z47 h48 (P_fReader_readTown_3_70 F z h t m)
    have f66 : (h48 3 2) = (pt_szF t m (pt_rn pt_bB t m 0)) ∧ 1 ≤ (pt_szF t m (pt_rn pt_bB t m 0)) ∧ (h48 3 1) = (h24 3 1) := f62
    clear f62
    have e61 : h48 3 1 = 70 := by omega
    refine ov_blk (ls2 := [(0, ov_r 3), (1, ov_r 70), (2, ov_i 0), (3, ov_i 0)]) (st2 := []) (pc2 := 31) b_24_28_3 rfl rfl ?_
    refine ov_blk (ls2 := [(0, ov_r 3), (1, ov_r 70), (2, ov_i 0), (3, ov_i 0)]) (st2 := [ov_i 1000, ov_i 0]) (pc2 := 35) b_24_31_2 rfl rfl ?_
    refine ov_icge (tgt := 63) d_24_35 (by decide) (by omega) (by omega) (fun c67 => ?_) (fun c67 => ?_)
    · omega
    · skip
      refine ov_blk (ls2 := [(0, ov_r 3), (1, ov_r 70), (2, ov_i 0), (3, ov_i 0)]) (st2 := [ov_i 0]) (pc2 := 39) b_24_38_1 rfl rfl ?_
      refine ov_ifeq (tgt := 63) d_24_39 (by decide) (by omega) (fun c68 => ?_) (fun c68 => ?_)
      · skip
        refine ov_blk (ls2 := [(0, ov_r 3), (1, ov_r 70), (2, ov_i 0), (3, ov_i 0)]) (st2 := [ov_i 0]) (pc2 := 64) b_24_63_1 rfl rfl ?_
        refine ov_ifeq (tgt := 74) d_24_64 (by decide) (by omega) (fun c69 => ?_) (fun c69 => ?_)
        · skip
          refine ov_blk (ls2 := [(0, ov_r 3), (1, ov_r 70), (2, ov_i 0), (3, ov_i 0)]) (st2 := [ov_r 3]) (pc2 := 75) b_24_74_1 rfl rfl ?_
          refine ov_getf (v := ov_r 1) d_24_75 fl_Reader_9 (zb_3 I49) (zs_3 I49) (congrArg ov_r (rg_3_0 I49)) ?_
          refine ov_cV (as := []) (st := []) (d2 := d - 1) d_24_78 lk_Reader_46 rfl (Nat.le_of_ble_eq_true rfl) (c := 8) (zb_1 I49) (zs_1 I49) ⟨by decide, rfl⟩ (by omega) (c_fTape_clear_1 (d - 1) (by omega) U I49 (ov_kws hw (by decide +kernel))) ?_
          rintro _ z70 h71 ⟨rfl, I72, y73, f74⟩
          have E75 : h71 2 = h 2 := Eq.trans (y73 2 (by decide)) (show h48 2 = h 2 from E52)
          have E76 : h71 3 = h48 3 := Eq.trans (y73 3 (by decide)) (show h48 3 = h48 3 from rfl)
          have E77 : h71 70 = h48 70 := Eq.trans (y73 70 (by decide)) (show h48 70 = h48 70 from rfl)
          have E78 : h71 71 = h3 71 := Eq.trans (y73 71 (by decide)) (show h48 71 = h3 71 from E53)
          have E79 : h71 72 = h 72 := Eq.trans (y73 72 (by decide)) (show h48 72 = h 72 from E54)
          have E80 : h71 73 = h 73 := Eq.trans (y73 73 (by decide)) (show h48 73 = h 73 from E55)
          have E81 : h71 74 = h 74 := Eq.trans (y73 74 (by decide)) (show h48 74 = h 74 from E56)
          have E82 : h71 75 = h3 75 := Eq.trans (y73 75 (by decide)) (show h48 75 = h3 75 from E57)
          have E83 : h71 76 = h3 76 := Eq.trans (y73 76 (by decide)) (show h48 76 = h3 76 from E58)
          have E84 : h71 78 = h 78 := Eq.trans (y73 78 (by decide)) (show h48 78 = h 78 from E59)
          have fr85 : ∀ a : Int, a ≠ 1 ∧ a ≠ 3 ∧ (a < 70 ∨ 81 < a) → h71 a = h a := fun a ca => Eq.trans (y73 a (by omega)) (fr60 a ca)
          have e86 : h71 3 1 = 70 := Eq.trans (congrFun (show h71 3 = h48 3 from y73 3 (by decide)) 1) e61
          have f87 : (h71 1 1) = 0 := f74
          clear f74
          show ov_R u d ov_m24 81 [(0, ov_r 3), (1, ov_r 70), (2, ov_i 0), (3, ov_i 0)] [] z70 h71 (P_fReader_readTown_3_70 F z h t m)
          refine ov_blk (ls2 := [(0, ov_r 3), (1, ov_r 70), (2, ov_i 0), (3, ov_i 0)]) (st2 := [ov_r 3]) (pc2 := 82) b_24_81_1 rfl rfl ?_
          have e88 : h71 3 2 = (h48 3 2) := congrFun (show h71 3 = h48 3 from E76) 2
          refine ov_getf (v := ov_i (h48 3 2)) d_24_82 fl_Reader_24 (zb_3 I72) (zs_3 I72) (congrArg ov_i e88) ?_
          have g89 := rg_3_2 I72
          rw [e88] at g89
          have q90 : h71 70 0 = h48 70 0 := congrFun (show h71 70 = h48 70 from E77) 0
          have q91 : h71 70 1 = h48 70 1 := congrFun (show h71 70 = h48 70 from E77) 1
          have q92 : h71 76 0 = h3 76 0 := congrFun E83 0
          have cf93 : h71 70 0 = h48 70 0 := congrFun (E77) 0
          have cf94 : h71 70 1 = h48 70 1 := congrFun (E77) 1
          have cf95 : h71 76 0 = h3 76 0 := congrFun (E83) 0
          exact ov_reti (st := []) d_24_85 rfl ⟨_, rfl, I72, (fun a ca => (fr85 a ca)), ⟨(fun _ => 0), (by show (h71 1 1) = 0 ∧ 0 ≤ (h48 3 2) ∧ (h48 3 2) ≤ 2147483647 ∧ ((h48 3 2) = 0 → 0 ≤ (h71 76 0) ∧ 1 ≤ (h71 70 0) ∧ 1 ≤ (h71 70 1)); omega), (Or.inl ⟨by omega, by omega⟩)⟩⟩
        · omega
      · omega
  · skip
    show ov_R u d ov_m24 28 [(0, ov_r 3), (1, ov_r 70)] [ov_i 1] z47 h48 (P_fReader_readTown_3_70 F z h t m)
    have f96 : (pt_szF t m (pt_rn pt_bB t m 0)) = 0 ∧ 1 ≤ (pt_nm t m (pt_nt t m (pt_rn pt_bB t m 0))) ∧ (pt_nm t m (pt_nt t m (pt_rn pt_bB t m 0))) ≤ 6 ∧ 1 ≤ (pt_nm t m (pt_nt t m (pt_nt t m (pt_rn pt_bB t m 0)))) ∧ (pt_nm t m (pt_nt t m (pt_nt t m (pt_rn pt_bB t m 0)))) ≤ 9 ∧ (h48 3 1) = (h24 3 1) ∧ (h48 3 2) = (h24 3 2) := f63
    clear f63
    have e61 : h48 3 1 = 70 := by omega
    have y64_ : pt_TC t m (h48 1) (pt_nt t m (pt_nt t m (pt_nt t m (pt_nt t m (pt_rn pt_bB t m 0))))) := y64
    have g97 := pt_TC_b y64_
    have g98 := pt_nt_le (t := t) (n := m) (p := (pt_rn pt_bB t m 0)) (by omega)
    have g99 := pt_nt_le (t := t) (n := m) (p := (pt_nt t m (pt_rn pt_bB t m 0))) (by omega)
    have g100 := pt_nt_le (t := t) (n := m) (p := (pt_nt t m (pt_nt t m (pt_rn pt_bB t m 0)))) (by omega)
    have g101 := pt_nt_le (t := t) (n := m) (p := (pt_nt t m (pt_nt t m (pt_nt t m (pt_rn pt_bB t m 0))))) (by omega)
    have y65_ : (h48 70) = ov_rs (ov_rs (h24 70) 0 (pt_nm t m (pt_nt t m (pt_rn pt_bB t m 0)))) 1 (pt_nm t m (pt_nt t m (pt_nt t m (pt_rn pt_bB t m 0)))) := y65
    have g102 : (h48 1 3) = (pt_nt t m (pt_nt t m (pt_nt t m (pt_nt t m (pt_rn pt_bB t m 0))))) := pt_TC_p y64_
    refine ov_blk (ls2 := [(0, ov_r 3), (1, ov_r 70), (2, ov_i 1), (3, ov_i 0)]) (st2 := []) (pc2 := 31) b_24_28_3 rfl rfl ?_
    have L106 : ∀ (n103 : Nat) (x3 : Int) (z107 : ov_Z) (h108 : ov_H) (I109 : ov_I F z107 h108) (E110 : h108 2 = h 2) (fr111 : ∀ a : Int, a ≠ 1 ∧ a ≠ 3 ∧ (a < 70 ∨ 81 < a) → h108 a = h a) (e112 : h108 3 1 = 70) (xg : ∃ A : Int → Int, pt_CR t m A (h108 70) (h108 71) (h108 72) (h108 73) (h108 74) (h108 75) (h108 76) (h108 78) ∧ ∀ (f : Int) (B : Int → Int), pt_EG t m A (h108 1 3) f B → pt_ET t m f B) (xt : pt_TC t m (h108 1) (h108 1 3)) (q105 : x3 ≤ (h108 1 3) ∧ (h108 1 3) ≤ m ∧ 0 ≤ x3 ∧ x3 ≤ 1000 ∧ (h108 3 2) = 0), 1000 - x3 < (n103 : Int) → ov_R u d ov_m24 31 [(0, ov_r 3), (1, ov_r 70), (2, ov_i 1), (3, ov_i x3)] [] z107 h108 (P_fReader_readTown_3_70 F z h t m) := by
      intro n103
      induction n103 with
      | zero =>
        intro x3 z107 h108 I109 E110 fr111 e112 xg xt q105 hn113
        exact absurd hn113 (by omega)
      | succ n103 ih104 =>
        intro x3 z107 h108 I109 E110 fr111 e112 xg xt q105 hn113
        obtain ⟨A, cr, cg⟩ := xg
        have tb2 := pt_TC_b xt
        have ty2 := pt_ty_b (t := t) (n := m) (p := (h108 1 3))
        have nb2 := pt_nt_b (t := t) (n := m) (p := (h108 1 3)) (by omega)
        have gA := pt_CR_r cr
        refine ov_blk (ls2 := [(0, ov_r 3), (1, ov_r 70), (2, ov_i 1), (3, ov_i x3)]) (st2 := [ov_i 1000, ov_i x3]) (pc2 := 35) b_24_31_2 rfl rfl ?_
        refine ov_icge (tgt := 63) d_24_35 (by decide) (by omega) (by omega) (fun c114 => ?_) (fun c114 => ?_)
        · skip
          have te : pt_ty t m (h108 1 3) = 0 := by omega
          refine ov_blk (ls2 := [(0, ov_r 3), (1, ov_r 70), (2, ov_i 1), (3, ov_i x3)]) (st2 := [ov_i 1]) (pc2 := 64) b_24_63_1 rfl rfl ?_
          refine ov_ifeq (tgt := 74) d_24_64 (by decide) (by omega) (fun c115 => ?_) (fun c115 => ?_)
          · omega
          · skip
            refine ov_blk (ls2 := [(0, ov_r 3), (1, ov_r 70), (2, ov_i 1), (3, ov_i x3)]) (st2 := [ov_r 3]) (pc2 := 68) b_24_67_1 rfl rfl ?_
            refine ov_getf (v := ov_r 70) d_24_68 fl_Reader_15 (zb_3 I109) (zs_3 I109) (congrArg ov_r e112) ?_
            refine ov_cV (as := []) (st := []) (d2 := d - 1) d_24_71 lk_Reader_43 rfl (Nat.le_of_ble_eq_true rfl) (c := 9) (zb_70 I109) (zs_70 I109) ⟨by decide, rfl⟩ (by omega) (c_fTown_complete_70 (d - 1) (by omega) U I109 (ov_kws hw (by decide +kernel))) ?_
            rintro _ z116 h117 ⟨rfl, I118, y119, f120⟩
            have E121 : h117 1 = h108 1 := Eq.trans (y119 1 (by decide)) (show h108 1 = h108 1 from rfl)
            have E122 : h117 2 = h 2 := Eq.trans (y119 2 (by decide)) (show h108 2 = h 2 from E110)
            have E123 : h117 3 = h108 3 := Eq.trans (y119 3 (by decide)) (show h108 3 = h108 3 from rfl)
            have E124 : h117 70 = h108 70 := Eq.trans (y119 70 (by decide)) (show h108 70 = h108 70 from rfl)
            have E125 : h117 71 = h108 71 := Eq.trans (y119 71 (by decide)) (show h108 71 = h108 71 from rfl)
            have E126 : h117 72 = h108 72 := Eq.trans (y119 72 (by decide)) (show h108 72 = h108 72 from rfl)
            have E127 : h117 73 = h108 73 := Eq.trans (y119 73 (by decide)) (show h108 73 = h108 73 from rfl)
            have E128 : h117 74 = h108 74 := Eq.trans (y119 74 (by decide)) (show h108 74 = h108 74 from rfl)
            have E129 : h117 75 = h108 75 := Eq.trans (y119 75 (by decide)) (show h108 75 = h108 75 from rfl)
            have E130 : h117 78 = h108 78 := Eq.trans (y119 78 (by decide)) (show h108 78 = h108 78 from rfl)
            have fr131 : ∀ a : Int, a ≠ 1 ∧ a ≠ 3 ∧ (a < 70 ∨ 81 < a) → h117 a = h a := fun a ca => Eq.trans (y119 a (by omega)) (fr111 a ca)
            have e132 : h117 3 1 = 70 := Eq.trans (congrFun (show h117 3 = h108 3 from y119 3 (by decide)) 1) e112
            have f133 : 0 ≤ (h117 76 0) := f120
            clear f120
            show ov_R u d ov_m24 74 [(0, ov_r 3), (1, ov_r 70), (2, ov_i 1), (3, ov_i x3)] [] z116 h117 (P_fReader_readTown_3_70 F z h t m)
            refine ov_blk (ls2 := [(0, ov_r 3), (1, ov_r 70), (2, ov_i 1), (3, ov_i x3)]) (st2 := [ov_r 3]) (pc2 := 75) b_24_74_1 rfl rfl ?_
            refine ov_getf (v := ov_r 1) d_24_75 fl_Reader_9 (zb_3 I118) (zs_3 I118) (congrArg ov_r (rg_3_0 I118)) ?_
            refine ov_cV (as := []) (st := []) (d2 := d - 1) d_24_78 lk_Reader_46 rfl (Nat.le_of_ble_eq_true rfl) (c := 8) (zb_1 I118) (zs_1 I118) ⟨by decide, rfl⟩ (by omega) (c_fTape_clear_1 (d - 1) (by omega) U I118 (ov_kws hw (by decide +kernel))) ?_
            rintro _ z134 h135 ⟨rfl, I136, y137, f138⟩
            have E139 : h135 2 = h 2 := Eq.trans (y137 2 (by decide)) (show h117 2 = h 2 from E122)
            have E140 : h135 3 = h108 3 := Eq.trans (y137 3 (by decide)) (show h117 3 = h108 3 from E123)
            have E141 : h135 70 = h108 70 := Eq.trans (y137 70 (by decide)) (show h117 70 = h108 70 from E124)
            have E142 : h135 71 = h108 71 := Eq.trans (y137 71 (by decide)) (show h117 71 = h108 71 from E125)
            have E143 : h135 72 = h108 72 := Eq.trans (y137 72 (by decide)) (show h117 72 = h108 72 from E126)
            have E144 : h135 73 = h108 73 := Eq.trans (y137 73 (by decide)) (show h117 73 = h108 73 from E127)
            have E145 : h135 74 = h108 74 := Eq.trans (y137 74 (by decide)) (show h117 74 = h108 74 from E128)
            have E146 : h135 75 = h108 75 := Eq.trans (y137 75 (by decide)) (show h117 75 = h108 75 from E129)
            have E147 : h135 76 = h117 76 := Eq.trans (y137 76 (by decide)) (show h117 76 = h117 76 from rfl)
            have E148 : h135 78 = h108 78 := Eq.trans (y137 78 (by decide)) (show h117 78 = h108 78 from E130)
            have fr149 : ∀ a : Int, a ≠ 1 ∧ a ≠ 3 ∧ (a < 70 ∨ 81 < a) → h135 a = h a := fun a ca => Eq.trans (y137 a (by omega)) (fr131 a ca)
            have e150 : h135 3 1 = 70 := Eq.trans (congrFun (show h135 3 = h117 3 from y137 3 (by decide)) 1) e132
            have f151 : (h135 1 1) = 0 := f138
            clear f138
            show ov_R u d ov_m24 81 [(0, ov_r 3), (1, ov_r 70), (2, ov_i 1), (3, ov_i x3)] [] z134 h135 (P_fReader_readTown_3_70 F z h t m)
            refine ov_blk (ls2 := [(0, ov_r 3), (1, ov_r 70), (2, ov_i 1), (3, ov_i x3)]) (st2 := [ov_r 3]) (pc2 := 82) b_24_81_1 rfl rfl ?_
            have e152 : h135 3 2 = (h108 3 2) := congrFun (show h135 3 = h108 3 from E140) 2
            refine ov_getf (v := ov_i (h108 3 2)) d_24_82 fl_Reader_24 (zb_3 I136) (zs_3 I136) (congrArg ov_i e152) ?_
            have g153 := rg_3_2 I136
            rw [e152] at g153
            have q154 : h135 70 0 = h108 70 0 := congrFun (show h135 70 = h108 70 from E141) 0
            have q155 : h135 70 1 = h108 70 1 := congrFun (show h135 70 = h108 70 from E141) 1
            have z0 := pt_CR_0 cr
            have z1 := pt_CR_1 cr
            have q156 : h135 76 0 = h117 76 0 := congrFun E147 0
            have cf157 : h135 70 0 = h108 70 0 := congrFun (E141) 0
            have cf158 : h135 70 1 = h108 70 1 := congrFun (E141) 1
            have cf159 : h135 76 0 = h117 76 0 := congrFun (E147) 0
            exact ov_reti (st := []) d_24_85 rfl ⟨_, rfl, I136, (fun a ca => (fr149 a ca)), ⟨A, (by show (h135 1 1) = 0 ∧ 0 ≤ (h108 3 2) ∧ (h108 3 2) ≤ 2147483647 ∧ ((h108 3 2) = 0 → 0 ≤ (h135 76 0) ∧ 1 ≤ (h135 70 0) ∧ 1 ≤ (h135 70 1)); omega), (by rw [show (h108 3 2) = (0 : Int) by omega]; exact cg 0 A (pt_EG_e (by omega)))⟩⟩
        · skip
          refine ov_blk (ls2 := [(0, ov_r 3), (1, ov_r 70), (2, ov_i 1), (3, ov_i x3)]) (st2 := [ov_i 1]) (pc2 := 39) b_24_38_1 rfl rfl ?_
          refine ov_ifeq (tgt := 63) d_24_39 (by decide) (by omega) (fun c160 => ?_) (fun c160 => ?_)
          · omega
          · skip
            refine ov_blk (ls2 := [(0, ov_r 3), (1, ov_r 70), (2, ov_i 1), (3, ov_i x3)]) (st2 := [ov_r 3]) (pc2 := 43) b_24_42_1 rfl rfl ?_
            refine ov_getf (v := ov_r 1) d_24_43 fl_Reader_9 (zb_3 I109) (zs_3 I109) (congrArg ov_r (rg_3_0 I109)) ?_
            have e161 : h108 1 2 = (pt_ty t m (h108 1 3)) := (pt_TC_t xt)
            refine ov_getf (v := ov_i (pt_ty t m (h108 1 3))) d_24_46 fl_Reader_37 (zb_1 I109) (zs_1 I109) (congrArg ov_i e161) ?_
            have g162 := rg_1_2 I109
            rw [e161] at g162
            refine ov_ifeq (tgt := 63) d_24_49 (by decide) (by omega) (fun c163 => ?_) (fun c163 => ?_)
            · skip
              have te : pt_ty t m (h108 1 3) = 0 := by omega
              refine ov_blk (ls2 := [(0, ov_r 3), (1, ov_r 70), (2, ov_i 1), (3, ov_i x3)]) (st2 := [ov_i 1]) (pc2 := 64) b_24_63_1 rfl rfl ?_
              refine ov_ifeq (tgt := 74) d_24_64 (by decide) (by omega) (fun c164 => ?_) (fun c164 => ?_)
              · omega
              · skip
                refine ov_blk (ls2 := [(0, ov_r 3), (1, ov_r 70), (2, ov_i 1), (3, ov_i x3)]) (st2 := [ov_r 3]) (pc2 := 68) b_24_67_1 rfl rfl ?_
                refine ov_getf (v := ov_r 70) d_24_68 fl_Reader_15 (zb_3 I109) (zs_3 I109) (congrArg ov_r e112) ?_
                refine ov_cV (as := []) (st := []) (d2 := d - 1) d_24_71 lk_Reader_43 rfl (Nat.le_of_ble_eq_true rfl) (c := 9) (zb_70 I109) (zs_70 I109) ⟨by decide, rfl⟩ (by omega) (c_fTown_complete_70 (d - 1) (by omega) U I109 (ov_kws hw (by decide +kernel))) ?_
                rintro _ z165 h166 ⟨rfl, I167, y168, f169⟩
                have E170 : h166 1 = h108 1 := Eq.trans (y168 1 (by decide)) (show h108 1 = h108 1 from rfl)
                have E171 : h166 2 = h 2 := Eq.trans (y168 2 (by decide)) (show h108 2 = h 2 from E110)
                have E172 : h166 3 = h108 3 := Eq.trans (y168 3 (by decide)) (show h108 3 = h108 3 from rfl)
                have E173 : h166 70 = h108 70 := Eq.trans (y168 70 (by decide)) (show h108 70 = h108 70 from rfl)
                have E174 : h166 71 = h108 71 := Eq.trans (y168 71 (by decide)) (show h108 71 = h108 71 from rfl)
                have E175 : h166 72 = h108 72 := Eq.trans (y168 72 (by decide)) (show h108 72 = h108 72 from rfl)
                have E176 : h166 73 = h108 73 := Eq.trans (y168 73 (by decide)) (show h108 73 = h108 73 from rfl)
                have E177 : h166 74 = h108 74 := Eq.trans (y168 74 (by decide)) (show h108 74 = h108 74 from rfl)
                have E178 : h166 75 = h108 75 := Eq.trans (y168 75 (by decide)) (show h108 75 = h108 75 from rfl)
                have E179 : h166 78 = h108 78 := Eq.trans (y168 78 (by decide)) (show h108 78 = h108 78 from rfl)
                have fr180 : ∀ a : Int, a ≠ 1 ∧ a ≠ 3 ∧ (a < 70 ∨ 81 < a) → h166 a = h a := fun a ca => Eq.trans (y168 a (by omega)) (fr111 a ca)
                have e181 : h166 3 1 = 70 := Eq.trans (congrFun (show h166 3 = h108 3 from y168 3 (by decide)) 1) e112
                have f182 : 0 ≤ (h166 76 0) := f169
                clear f169
                show ov_R u d ov_m24 74 [(0, ov_r 3), (1, ov_r 70), (2, ov_i 1), (3, ov_i x3)] [] z165 h166 (P_fReader_readTown_3_70 F z h t m)
                refine ov_blk (ls2 := [(0, ov_r 3), (1, ov_r 70), (2, ov_i 1), (3, ov_i x3)]) (st2 := [ov_r 3]) (pc2 := 75) b_24_74_1 rfl rfl ?_
                refine ov_getf (v := ov_r 1) d_24_75 fl_Reader_9 (zb_3 I167) (zs_3 I167) (congrArg ov_r (rg_3_0 I167)) ?_
                refine ov_cV (as := []) (st := []) (d2 := d - 1) d_24_78 lk_Reader_46 rfl (Nat.le_of_ble_eq_true rfl) (c := 8) (zb_1 I167) (zs_1 I167) ⟨by decide, rfl⟩ (by omega) (c_fTape_clear_1 (d - 1) (by omega) U I167 (ov_kws hw (by decide +kernel))) ?_
                rintro _ z183 h184 ⟨rfl, I185, y186, f187⟩
                have E188 : h184 2 = h 2 := Eq.trans (y186 2 (by decide)) (show h166 2 = h 2 from E171)
                have E189 : h184 3 = h108 3 := Eq.trans (y186 3 (by decide)) (show h166 3 = h108 3 from E172)
                have E190 : h184 70 = h108 70 := Eq.trans (y186 70 (by decide)) (show h166 70 = h108 70 from E173)
                have E191 : h184 71 = h108 71 := Eq.trans (y186 71 (by decide)) (show h166 71 = h108 71 from E174)
                have E192 : h184 72 = h108 72 := Eq.trans (y186 72 (by decide)) (show h166 72 = h108 72 from E175)
                have E193 : h184 73 = h108 73 := Eq.trans (y186 73 (by decide)) (show h166 73 = h108 73 from E176)
                have E194 : h184 74 = h108 74 := Eq.trans (y186 74 (by decide)) (show h166 74 = h108 74 from E177)
                have E195 : h184 75 = h108 75 := Eq.trans (y186 75 (by decide)) (show h166 75 = h108 75 from E178)
                have E196 : h184 76 = h166 76 := Eq.trans (y186 76 (by decide)) (show h166 76 = h166 76 from rfl)
                have E197 : h184 78 = h108 78 := Eq.trans (y186 78 (by decide)) (show h166 78 = h108 78 from E179)
                have fr198 : ∀ a : Int, a ≠ 1 ∧ a ≠ 3 ∧ (a < 70 ∨ 81 < a) → h184 a = h a := fun a ca => Eq.trans (y186 a (by omega)) (fr180 a ca)
                have e199 : h184 3 1 = 70 := Eq.trans (congrFun (show h184 3 = h166 3 from y186 3 (by decide)) 1) e181
                have f200 : (h184 1 1) = 0 := f187
                clear f187
                show ov_R u d ov_m24 81 [(0, ov_r 3), (1, ov_r 70), (2, ov_i 1), (3, ov_i x3)] [] z183 h184 (P_fReader_readTown_3_70 F z h t m)
                refine ov_blk (ls2 := [(0, ov_r 3), (1, ov_r 70), (2, ov_i 1), (3, ov_i x3)]) (st2 := [ov_r 3]) (pc2 := 82) b_24_81_1 rfl rfl ?_
                have e201 : h184 3 2 = (h108 3 2) := congrFun (show h184 3 = h108 3 from E189) 2
                refine ov_getf (v := ov_i (h108 3 2)) d_24_82 fl_Reader_24 (zb_3 I185) (zs_3 I185) (congrArg ov_i e201) ?_
                have g202 := rg_3_2 I185
                rw [e201] at g202
                have q203 : h184 70 0 = h108 70 0 := congrFun (show h184 70 = h108 70 from E190) 0
                have q204 : h184 70 1 = h108 70 1 := congrFun (show h184 70 = h108 70 from E190) 1
                have z0 := pt_CR_0 cr
                have z1 := pt_CR_1 cr
                have q205 : h184 76 0 = h166 76 0 := congrFun E196 0
                have cf206 : h184 70 0 = h108 70 0 := congrFun (E190) 0
                have cf207 : h184 70 1 = h108 70 1 := congrFun (E190) 1
                have cf208 : h184 76 0 = h166 76 0 := congrFun (E196) 0
                exact ov_reti (st := []) d_24_85 rfl ⟨_, rfl, I185, (fun a ca => (fr198 a ca)), ⟨A, (by show (h184 1 1) = 0 ∧ 0 ≤ (h108 3 2) ∧ (h108 3 2) ≤ 2147483647 ∧ ((h108 3 2) = 0 → 0 ≤ (h184 76 0) ∧ 1 ≤ (h184 70 0) ∧ 1 ≤ (h184 70 1)); omega), (by rw [show (h108 3 2) = (0 : Int) by omega]; exact cg 0 A (pt_EG_e (by omega)))⟩⟩
            · skip
              refine ov_blk (ls2 := [(0, ov_r 3), (1, ov_r 70), (2, ov_i 1), (3, ov_i x3)]) (st2 := [ov_r 3]) (pc2 := 53) b_24_52_1 rfl rfl ?_
              refine ov_cV (as := []) (st := []) (d2 := d - 1) d_24_53 lk_Reader_40 rfl (Nat.le_of_ble_eq_true rfl) (c := 6) (zb_3 I109) (zs_3 I109) ⟨by decide, rfl⟩ (by omega) (c_fReader_readLine_3_k3_1_70 t m (h108 1 3) A (d - 1) (by omega) U I109 (ov_kws hw (by decide +kernel)) e112 (show h108 2 = t from Eq.trans (show h108 2 = h 2 from E110) et) xt cr) ?_
              rintro _ z210 h211 ⟨v209, rfl, I212, y213, y214⟩
              have E215 : h211 2 = h 2 := Eq.trans (y213 2 (by decide)) (show h108 2 = h 2 from E110)
              have fr216 : ∀ a : Int, a ≠ 1 ∧ a ≠ 3 ∧ (a < 70 ∨ 81 < a) → h211 a = h a := fun a ca => Eq.trans (y213 a (by omega)) (fr111 a ca)
              rcases y214 with ⟨rfl, w218, w219, f220, y221⟩ | ⟨rfl, w222, f223, y224⟩ | ⟨rfl, w225, f226, y227, y228, y229⟩
              · skip
                show ov_R u d ov_m24 56 [(0, ov_r 3), (1, ov_r 70), (2, ov_i 1), (3, ov_i x3)] [ov_i 0] z210 h211 (P_fReader_readTown_3_70 F z h t m)
                have f230 : (h211 3 2) = w218 ∧ 1 ≤ w218 ∧ (h211 3 1) = (h108 3 1) := f220
                clear f220
                have e217 : h211 3 1 = 70 := by omega
                have y221_ : pt_EL t m A (h108 1 3) w218 w219 := y221
                refine ov_blk (ls2 := [(0, ov_r 3), (1, ov_r 70), (2, ov_i 0), (3, ov_i (x3 + 1))]) (st2 := []) (pc2 := 60) b_24_56_2 rfl rfl ?_
                refine ov_goto (tgt := 31) d_24_60 (by decide) ?_
                refine ov_blk (ls2 := [(0, ov_r 3), (1, ov_r 70), (2, ov_i 0), (3, ov_i (x3 + 1))]) (st2 := [ov_i 1000, ov_i (x3 + 1)]) (pc2 := 35) b_24_31_2 rfl rfl ?_
                refine ov_icge (tgt := 63) d_24_35 (by decide) (by omega) (by omega) (fun c231 => ?_) (fun c231 => ?_)
                · skip
                  refine ov_blk (ls2 := [(0, ov_r 3), (1, ov_r 70), (2, ov_i 0), (3, ov_i (x3 + 1))]) (st2 := [ov_i 0]) (pc2 := 64) b_24_63_1 rfl rfl ?_
                  refine ov_ifeq (tgt := 74) d_24_64 (by decide) (by omega) (fun c232 => ?_) (fun c232 => ?_)
                  · skip
                    refine ov_blk (ls2 := [(0, ov_r 3), (1, ov_r 70), (2, ov_i 0), (3, ov_i (x3 + 1))]) (st2 := [ov_r 3]) (pc2 := 75) b_24_74_1 rfl rfl ?_
                    refine ov_getf (v := ov_r 1) d_24_75 fl_Reader_9 (zb_3 I212) (zs_3 I212) (congrArg ov_r (rg_3_0 I212)) ?_
                    refine ov_cV (as := []) (st := []) (d2 := d - 1) d_24_78 lk_Reader_46 rfl (Nat.le_of_ble_eq_true rfl) (c := 8) (zb_1 I212) (zs_1 I212) ⟨by decide, rfl⟩ (by omega) (c_fTape_clear_1 (d - 1) (by omega) U I212 (ov_kws hw (by decide +kernel))) ?_
                    rintro _ z233 h234 ⟨rfl, I235, y236, f237⟩
                    have E238 : h234 2 = h 2 := Eq.trans (y236 2 (by decide)) (show h211 2 = h 2 from E215)
                    have E239 : h234 3 = h211 3 := Eq.trans (y236 3 (by decide)) (show h211 3 = h211 3 from rfl)
                    have E240 : h234 70 = h211 70 := Eq.trans (y236 70 (by decide)) (show h211 70 = h211 70 from rfl)
                    have E241 : h234 71 = h211 71 := Eq.trans (y236 71 (by decide)) (show h211 71 = h211 71 from rfl)
                    have E242 : h234 72 = h211 72 := Eq.trans (y236 72 (by decide)) (show h211 72 = h211 72 from rfl)
                    have E243 : h234 73 = h211 73 := Eq.trans (y236 73 (by decide)) (show h211 73 = h211 73 from rfl)
                    have E244 : h234 74 = h211 74 := Eq.trans (y236 74 (by decide)) (show h211 74 = h211 74 from rfl)
                    have E245 : h234 75 = h211 75 := Eq.trans (y236 75 (by decide)) (show h211 75 = h211 75 from rfl)
                    have E246 : h234 76 = h211 76 := Eq.trans (y236 76 (by decide)) (show h211 76 = h211 76 from rfl)
                    have E247 : h234 78 = h211 78 := Eq.trans (y236 78 (by decide)) (show h211 78 = h211 78 from rfl)
                    have fr248 : ∀ a : Int, a ≠ 1 ∧ a ≠ 3 ∧ (a < 70 ∨ 81 < a) → h234 a = h a := fun a ca => Eq.trans (y236 a (by omega)) (fr216 a ca)
                    have e249 : h234 3 1 = 70 := Eq.trans (congrFun (show h234 3 = h211 3 from y236 3 (by decide)) 1) e217
                    have f250 : (h234 1 1) = 0 := f237
                    clear f237
                    show ov_R u d ov_m24 81 [(0, ov_r 3), (1, ov_r 70), (2, ov_i 0), (3, ov_i (x3 + 1))] [] z233 h234 (P_fReader_readTown_3_70 F z h t m)
                    refine ov_blk (ls2 := [(0, ov_r 3), (1, ov_r 70), (2, ov_i 0), (3, ov_i (x3 + 1))]) (st2 := [ov_r 3]) (pc2 := 82) b_24_81_1 rfl rfl ?_
                    have e251 : h234 3 2 = (h211 3 2) := congrFun (show h234 3 = h211 3 from E239) 2
                    refine ov_getf (v := ov_i (h211 3 2)) d_24_82 fl_Reader_24 (zb_3 I235) (zs_3 I235) (congrArg ov_i e251) ?_
                    have g252 := rg_3_2 I235
                    rw [e251] at g252
                    have q253 : h234 70 0 = h211 70 0 := congrFun (show h234 70 = h211 70 from E240) 0
                    have q254 : h234 70 1 = h211 70 1 := congrFun (show h234 70 = h211 70 from E240) 1
                    have q255 : h234 76 0 = h211 76 0 := congrFun E246 0
                    have cf256 : h234 70 0 = h211 70 0 := congrFun (E240) 0
                    have cf257 : h234 70 1 = h211 70 1 := congrFun (E240) 1
                    have cf258 : h234 76 0 = h211 76 0 := congrFun (E246) 0
                    exact ov_reti (st := []) d_24_85 rfl ⟨_, rfl, I235, (fun a ca => (fr248 a ca)), ⟨(fun _ => 0), (by show (h234 1 1) = 0 ∧ 0 ≤ (h211 3 2) ∧ (h211 3 2) ≤ 2147483647 ∧ ((h211 3 2) = 0 → 0 ≤ (h234 76 0) ∧ 1 ≤ (h234 70 0) ∧ 1 ≤ (h234 70 1)); omega), (by rw [show (h211 3 2) = w218 by omega]; exact cg _ _ (pt_EG_f (by omega) y221_ (by omega)))⟩⟩
                  · omega
                · skip
                  refine ov_blk (ls2 := [(0, ov_r 3), (1, ov_r 70), (2, ov_i 0), (3, ov_i (x3 + 1))]) (st2 := [ov_i 0]) (pc2 := 39) b_24_38_1 rfl rfl ?_
                  refine ov_ifeq (tgt := 63) d_24_39 (by decide) (by omega) (fun c259 => ?_) (fun c259 => ?_)
                  · skip
                    refine ov_blk (ls2 := [(0, ov_r 3), (1, ov_r 70), (2, ov_i 0), (3, ov_i (x3 + 1))]) (st2 := [ov_i 0]) (pc2 := 64) b_24_63_1 rfl rfl ?_
                    refine ov_ifeq (tgt := 74) d_24_64 (by decide) (by omega) (fun c260 => ?_) (fun c260 => ?_)
                    · skip
                      refine ov_blk (ls2 := [(0, ov_r 3), (1, ov_r 70), (2, ov_i 0), (3, ov_i (x3 + 1))]) (st2 := [ov_r 3]) (pc2 := 75) b_24_74_1 rfl rfl ?_
                      refine ov_getf (v := ov_r 1) d_24_75 fl_Reader_9 (zb_3 I212) (zs_3 I212) (congrArg ov_r (rg_3_0 I212)) ?_
                      refine ov_cV (as := []) (st := []) (d2 := d - 1) d_24_78 lk_Reader_46 rfl (Nat.le_of_ble_eq_true rfl) (c := 8) (zb_1 I212) (zs_1 I212) ⟨by decide, rfl⟩ (by omega) (c_fTape_clear_1 (d - 1) (by omega) U I212 (ov_kws hw (by decide +kernel))) ?_
                      rintro _ z261 h262 ⟨rfl, I263, y264, f265⟩
                      have E266 : h262 2 = h 2 := Eq.trans (y264 2 (by decide)) (show h211 2 = h 2 from E215)
                      have E267 : h262 3 = h211 3 := Eq.trans (y264 3 (by decide)) (show h211 3 = h211 3 from rfl)
                      have E268 : h262 70 = h211 70 := Eq.trans (y264 70 (by decide)) (show h211 70 = h211 70 from rfl)
                      have E269 : h262 71 = h211 71 := Eq.trans (y264 71 (by decide)) (show h211 71 = h211 71 from rfl)
                      have E270 : h262 72 = h211 72 := Eq.trans (y264 72 (by decide)) (show h211 72 = h211 72 from rfl)
                      have E271 : h262 73 = h211 73 := Eq.trans (y264 73 (by decide)) (show h211 73 = h211 73 from rfl)
                      have E272 : h262 74 = h211 74 := Eq.trans (y264 74 (by decide)) (show h211 74 = h211 74 from rfl)
                      have E273 : h262 75 = h211 75 := Eq.trans (y264 75 (by decide)) (show h211 75 = h211 75 from rfl)
                      have E274 : h262 76 = h211 76 := Eq.trans (y264 76 (by decide)) (show h211 76 = h211 76 from rfl)
                      have E275 : h262 78 = h211 78 := Eq.trans (y264 78 (by decide)) (show h211 78 = h211 78 from rfl)
                      have fr276 : ∀ a : Int, a ≠ 1 ∧ a ≠ 3 ∧ (a < 70 ∨ 81 < a) → h262 a = h a := fun a ca => Eq.trans (y264 a (by omega)) (fr216 a ca)
                      have e277 : h262 3 1 = 70 := Eq.trans (congrFun (show h262 3 = h211 3 from y264 3 (by decide)) 1) e217
                      have f278 : (h262 1 1) = 0 := f265
                      clear f265
                      show ov_R u d ov_m24 81 [(0, ov_r 3), (1, ov_r 70), (2, ov_i 0), (3, ov_i (x3 + 1))] [] z261 h262 (P_fReader_readTown_3_70 F z h t m)
                      refine ov_blk (ls2 := [(0, ov_r 3), (1, ov_r 70), (2, ov_i 0), (3, ov_i (x3 + 1))]) (st2 := [ov_r 3]) (pc2 := 82) b_24_81_1 rfl rfl ?_
                      have e279 : h262 3 2 = (h211 3 2) := congrFun (show h262 3 = h211 3 from E267) 2
                      refine ov_getf (v := ov_i (h211 3 2)) d_24_82 fl_Reader_24 (zb_3 I263) (zs_3 I263) (congrArg ov_i e279) ?_
                      have g280 := rg_3_2 I263
                      rw [e279] at g280
                      have q281 : h262 70 0 = h211 70 0 := congrFun (show h262 70 = h211 70 from E268) 0
                      have q282 : h262 70 1 = h211 70 1 := congrFun (show h262 70 = h211 70 from E268) 1
                      have q283 : h262 76 0 = h211 76 0 := congrFun E274 0
                      have cf284 : h262 70 0 = h211 70 0 := congrFun (E268) 0
                      have cf285 : h262 70 1 = h211 70 1 := congrFun (E268) 1
                      have cf286 : h262 76 0 = h211 76 0 := congrFun (E274) 0
                      exact ov_reti (st := []) d_24_85 rfl ⟨_, rfl, I263, (fun a ca => (fr276 a ca)), ⟨(fun _ => 0), (by show (h262 1 1) = 0 ∧ 0 ≤ (h211 3 2) ∧ (h211 3 2) ≤ 2147483647 ∧ ((h211 3 2) = 0 → 0 ≤ (h262 76 0) ∧ 1 ≤ (h262 70 0) ∧ 1 ≤ (h262 70 1)); omega), (by rw [show (h211 3 2) = w218 by omega]; exact cg _ _ (pt_EG_f (by omega) y221_ (by omega)))⟩⟩
                    · omega
                  · omega
              · skip
                show ov_R u d ov_m24 56 [(0, ov_r 3), (1, ov_r 70), (2, ov_i 1), (3, ov_i x3)] [ov_i 0] z210 h211 (P_fReader_readTown_3_70 F z h t m)
                have f287 : (pt_is t m w222 59) = 0 ∧ (h211 3 2) = 1 + 16 * w222 ∧ 0 ≤ w222 ∧ (h211 3 1) = (h108 3 1) := f223
                clear f223
                have e217 : h211 3 1 = 70 := by omega
                have y224_ : pt_EL t m A (h108 1 3) 0 w222 := y224
                refine ov_blk (ls2 := [(0, ov_r 3), (1, ov_r 70), (2, ov_i 0), (3, ov_i (x3 + 1))]) (st2 := []) (pc2 := 60) b_24_56_2 rfl rfl ?_
                refine ov_goto (tgt := 31) d_24_60 (by decide) ?_
                refine ov_blk (ls2 := [(0, ov_r 3), (1, ov_r 70), (2, ov_i 0), (3, ov_i (x3 + 1))]) (st2 := [ov_i 1000, ov_i (x3 + 1)]) (pc2 := 35) b_24_31_2 rfl rfl ?_
                refine ov_icge (tgt := 63) d_24_35 (by decide) (by omega) (by omega) (fun c288 => ?_) (fun c288 => ?_)
                · skip
                  refine ov_blk (ls2 := [(0, ov_r 3), (1, ov_r 70), (2, ov_i 0), (3, ov_i (x3 + 1))]) (st2 := [ov_i 0]) (pc2 := 64) b_24_63_1 rfl rfl ?_
                  refine ov_ifeq (tgt := 74) d_24_64 (by decide) (by omega) (fun c289 => ?_) (fun c289 => ?_)
                  · skip
                    refine ov_blk (ls2 := [(0, ov_r 3), (1, ov_r 70), (2, ov_i 0), (3, ov_i (x3 + 1))]) (st2 := [ov_r 3]) (pc2 := 75) b_24_74_1 rfl rfl ?_
                    refine ov_getf (v := ov_r 1) d_24_75 fl_Reader_9 (zb_3 I212) (zs_3 I212) (congrArg ov_r (rg_3_0 I212)) ?_
                    refine ov_cV (as := []) (st := []) (d2 := d - 1) d_24_78 lk_Reader_46 rfl (Nat.le_of_ble_eq_true rfl) (c := 8) (zb_1 I212) (zs_1 I212) ⟨by decide, rfl⟩ (by omega) (c_fTape_clear_1 (d - 1) (by omega) U I212 (ov_kws hw (by decide +kernel))) ?_
                    rintro _ z290 h291 ⟨rfl, I292, y293, f294⟩
                    have E295 : h291 2 = h 2 := Eq.trans (y293 2 (by decide)) (show h211 2 = h 2 from E215)
                    have E296 : h291 3 = h211 3 := Eq.trans (y293 3 (by decide)) (show h211 3 = h211 3 from rfl)
                    have E297 : h291 70 = h211 70 := Eq.trans (y293 70 (by decide)) (show h211 70 = h211 70 from rfl)
                    have E298 : h291 71 = h211 71 := Eq.trans (y293 71 (by decide)) (show h211 71 = h211 71 from rfl)
                    have E299 : h291 72 = h211 72 := Eq.trans (y293 72 (by decide)) (show h211 72 = h211 72 from rfl)
                    have E300 : h291 73 = h211 73 := Eq.trans (y293 73 (by decide)) (show h211 73 = h211 73 from rfl)
                    have E301 : h291 74 = h211 74 := Eq.trans (y293 74 (by decide)) (show h211 74 = h211 74 from rfl)
                    have E302 : h291 75 = h211 75 := Eq.trans (y293 75 (by decide)) (show h211 75 = h211 75 from rfl)
                    have E303 : h291 76 = h211 76 := Eq.trans (y293 76 (by decide)) (show h211 76 = h211 76 from rfl)
                    have E304 : h291 78 = h211 78 := Eq.trans (y293 78 (by decide)) (show h211 78 = h211 78 from rfl)
                    have fr305 : ∀ a : Int, a ≠ 1 ∧ a ≠ 3 ∧ (a < 70 ∨ 81 < a) → h291 a = h a := fun a ca => Eq.trans (y293 a (by omega)) (fr216 a ca)
                    have e306 : h291 3 1 = 70 := Eq.trans (congrFun (show h291 3 = h211 3 from y293 3 (by decide)) 1) e217
                    have f307 : (h291 1 1) = 0 := f294
                    clear f294
                    show ov_R u d ov_m24 81 [(0, ov_r 3), (1, ov_r 70), (2, ov_i 0), (3, ov_i (x3 + 1))] [] z290 h291 (P_fReader_readTown_3_70 F z h t m)
                    refine ov_blk (ls2 := [(0, ov_r 3), (1, ov_r 70), (2, ov_i 0), (3, ov_i (x3 + 1))]) (st2 := [ov_r 3]) (pc2 := 82) b_24_81_1 rfl rfl ?_
                    have e308 : h291 3 2 = (h211 3 2) := congrFun (show h291 3 = h211 3 from E296) 2
                    refine ov_getf (v := ov_i (h211 3 2)) d_24_82 fl_Reader_24 (zb_3 I292) (zs_3 I292) (congrArg ov_i e308) ?_
                    have g309 := rg_3_2 I292
                    rw [e308] at g309
                    have q310 : h291 70 0 = h211 70 0 := congrFun (show h291 70 = h211 70 from E297) 0
                    have q311 : h291 70 1 = h211 70 1 := congrFun (show h291 70 = h211 70 from E297) 1
                    have q312 : h291 76 0 = h211 76 0 := congrFun E303 0
                    have cf313 : h291 70 0 = h211 70 0 := congrFun (E297) 0
                    have cf314 : h291 70 1 = h211 70 1 := congrFun (E297) 1
                    have cf315 : h291 76 0 = h211 76 0 := congrFun (E303) 0
                    exact ov_reti (st := []) d_24_85 rfl ⟨_, rfl, I292, (fun a ca => (fr305 a ca)), ⟨(fun _ => 0), (by show (h291 1 1) = 0 ∧ 0 ≤ (h211 3 2) ∧ (h211 3 2) ≤ 2147483647 ∧ ((h211 3 2) = 0 → 0 ≤ (h291 76 0) ∧ 1 ≤ (h291 70 0) ∧ 1 ≤ (h291 70 1)); omega), (by rw [show (h211 3 2) = 1 + 16 * w222 by omega]; exact cg _ _ (pt_EG_s (by omega) y224_ (by omega) (by omega)))⟩⟩
                  · omega
                · skip
                  refine ov_blk (ls2 := [(0, ov_r 3), (1, ov_r 70), (2, ov_i 0), (3, ov_i (x3 + 1))]) (st2 := [ov_i 0]) (pc2 := 39) b_24_38_1 rfl rfl ?_
                  refine ov_ifeq (tgt := 63) d_24_39 (by decide) (by omega) (fun c316 => ?_) (fun c316 => ?_)
                  · skip
                    refine ov_blk (ls2 := [(0, ov_r 3), (1, ov_r 70), (2, ov_i 0), (3, ov_i (x3 + 1))]) (st2 := [ov_i 0]) (pc2 := 64) b_24_63_1 rfl rfl ?_
                    refine ov_ifeq (tgt := 74) d_24_64 (by decide) (by omega) (fun c317 => ?_) (fun c317 => ?_)
                    · skip
                      refine ov_blk (ls2 := [(0, ov_r 3), (1, ov_r 70), (2, ov_i 0), (3, ov_i (x3 + 1))]) (st2 := [ov_r 3]) (pc2 := 75) b_24_74_1 rfl rfl ?_
                      refine ov_getf (v := ov_r 1) d_24_75 fl_Reader_9 (zb_3 I212) (zs_3 I212) (congrArg ov_r (rg_3_0 I212)) ?_
                      refine ov_cV (as := []) (st := []) (d2 := d - 1) d_24_78 lk_Reader_46 rfl (Nat.le_of_ble_eq_true rfl) (c := 8) (zb_1 I212) (zs_1 I212) ⟨by decide, rfl⟩ (by omega) (c_fTape_clear_1 (d - 1) (by omega) U I212 (ov_kws hw (by decide +kernel))) ?_
                      rintro _ z318 h319 ⟨rfl, I320, y321, f322⟩
                      have E323 : h319 2 = h 2 := Eq.trans (y321 2 (by decide)) (show h211 2 = h 2 from E215)
                      have E324 : h319 3 = h211 3 := Eq.trans (y321 3 (by decide)) (show h211 3 = h211 3 from rfl)
                      have E325 : h319 70 = h211 70 := Eq.trans (y321 70 (by decide)) (show h211 70 = h211 70 from rfl)
                      have E326 : h319 71 = h211 71 := Eq.trans (y321 71 (by decide)) (show h211 71 = h211 71 from rfl)
                      have E327 : h319 72 = h211 72 := Eq.trans (y321 72 (by decide)) (show h211 72 = h211 72 from rfl)
                      have E328 : h319 73 = h211 73 := Eq.trans (y321 73 (by decide)) (show h211 73 = h211 73 from rfl)
                      have E329 : h319 74 = h211 74 := Eq.trans (y321 74 (by decide)) (show h211 74 = h211 74 from rfl)
                      have E330 : h319 75 = h211 75 := Eq.trans (y321 75 (by decide)) (show h211 75 = h211 75 from rfl)
                      have E331 : h319 76 = h211 76 := Eq.trans (y321 76 (by decide)) (show h211 76 = h211 76 from rfl)
                      have E332 : h319 78 = h211 78 := Eq.trans (y321 78 (by decide)) (show h211 78 = h211 78 from rfl)
                      have fr333 : ∀ a : Int, a ≠ 1 ∧ a ≠ 3 ∧ (a < 70 ∨ 81 < a) → h319 a = h a := fun a ca => Eq.trans (y321 a (by omega)) (fr216 a ca)
                      have e334 : h319 3 1 = 70 := Eq.trans (congrFun (show h319 3 = h211 3 from y321 3 (by decide)) 1) e217
                      have f335 : (h319 1 1) = 0 := f322
                      clear f322
                      show ov_R u d ov_m24 81 [(0, ov_r 3), (1, ov_r 70), (2, ov_i 0), (3, ov_i (x3 + 1))] [] z318 h319 (P_fReader_readTown_3_70 F z h t m)
                      refine ov_blk (ls2 := [(0, ov_r 3), (1, ov_r 70), (2, ov_i 0), (3, ov_i (x3 + 1))]) (st2 := [ov_r 3]) (pc2 := 82) b_24_81_1 rfl rfl ?_
                      have e336 : h319 3 2 = (h211 3 2) := congrFun (show h319 3 = h211 3 from E324) 2
                      refine ov_getf (v := ov_i (h211 3 2)) d_24_82 fl_Reader_24 (zb_3 I320) (zs_3 I320) (congrArg ov_i e336) ?_
                      have g337 := rg_3_2 I320
                      rw [e336] at g337
                      have q338 : h319 70 0 = h211 70 0 := congrFun (show h319 70 = h211 70 from E325) 0
                      have q339 : h319 70 1 = h211 70 1 := congrFun (show h319 70 = h211 70 from E325) 1
                      have q340 : h319 76 0 = h211 76 0 := congrFun E331 0
                      have cf341 : h319 70 0 = h211 70 0 := congrFun (E325) 0
                      have cf342 : h319 70 1 = h211 70 1 := congrFun (E325) 1
                      have cf343 : h319 76 0 = h211 76 0 := congrFun (E331) 0
                      exact ov_reti (st := []) d_24_85 rfl ⟨_, rfl, I320, (fun a ca => (fr333 a ca)), ⟨(fun _ => 0), (by show (h319 1 1) = 0 ∧ 0 ≤ (h211 3 2) ∧ (h211 3 2) ≤ 2147483647 ∧ ((h211 3 2) = 0 → 0 ≤ (h319 76 0) ∧ 1 ≤ (h319 70 0) ∧ 1 ≤ (h319 70 1)); omega), (by rw [show (h211 3 2) = 1 + 16 * w222 by omega]; exact cg _ _ (pt_EG_s (by omega) y224_ (by omega) (by omega)))⟩⟩
                    · omega
                  · omega
              · skip
                show ov_R u d ov_m24 56 [(0, ov_r 3), (1, ov_r 70), (2, ov_i 1), (3, ov_i x3)] [ov_i 1] z210 h211 (P_fReader_readTown_3_70 F z h t m)
                have f344 : (pt_is t m w225 59) = 1 ∧ (h108 1 3) ≤ w225 ∧ w225 ≤ m ∧ (h211 3 1) = (h108 3 1) ∧ (h211 3 2) = (h108 3 2) := f226
                clear f226
                have e217 : h211 3 1 = 70 := by omega
                have y227_ : pt_EL t m A (h108 1 3) 0 w225 := y227
                have y228_ : pt_TC t m (h211 1) (pt_nt t m w225) := y228
                have g345 := pt_TC_b y228_
                have g346 := pt_nt_le (t := t) (n := m) (p := w225) (by omega)
                have y229_ : pt_CR t m (pt_LA t m A (h108 1 3)) (h211 70) (h211 71) (h211 72) (h211 73) (h211 74) (h211 75) (h211 76) (h211 78) := y229
                have g347 := pt_is_n (t := t) (m := m) (p := w225) (c := 59) (by omega)
                refine ov_blk (ls2 := [(0, ov_r 3), (1, ov_r 70), (2, ov_i 1), (3, ov_i (x3 + 1))]) (st2 := []) (pc2 := 60) b_24_56_2 rfl rfl ?_
                refine ov_goto (tgt := 31) d_24_60 (by decide) ?_
                have g348 : (h211 1 3) = (pt_nt t m w225) := pt_TC_p y228_
                exact ih104 (x3 + 1) _ _ I212 E215 (fun a ca => (fr216 a ca)) e217 (⟨(pt_LA t m A (h108 1 3)), y229_, fun f B e => cg f B (pt_EG_n (by omega) y227_ (by omega) (by rw [show h211 1 3 = (pt_nt t m w225) from pt_TC_p y228_] at e; exact e))⟩) (by rw [pt_TC_p y228_]; exact y228_) (by show (x3 + 1) ≤ (h211 1 3) ∧ (h211 1 3) ≤ m ∧ 0 ≤ (x3 + 1) ∧ (x3 + 1) ≤ 1000 ∧ (h211 3 2) = 0; omega) (by omega)
    exact L106 1001 0 _ _ I49 E52 (fun a ca => (fr60 a ca)) e61 (⟨(pt_A0 (pt_nm t m (pt_nt t m (pt_rn pt_bB t m 0))) (pt_nm t m (pt_nt t m (pt_nt t m (pt_rn pt_bB t m 0))))), pt_CR_first (by omega) (by omega) (by rw [show h48 70 = _ from y65_, ov_rs_ne (by decide), ov_rs_eq]) (by rw [show h48 70 = _ from y65_, ov_rs_eq]) (by rw [show h48 70 = _ from y65_, ov_rs_ne (by decide), ov_rs_ne (by decide)]; omega) (by rw [show h48 70 = _ from y65_, ov_rs_ne (by decide), ov_rs_ne (by decide)]; omega) (by rw [show h48 70 = _ from y65_, ov_rs_ne (by decide), ov_rs_ne (by decide)]; omega) (by rw [show h48 70 = _ from y65_, ov_rs_ne (by decide), ov_rs_ne (by decide)]; omega) (fun c a b => by rw [show h48 71 = h3 71 from E53]; exact y7_ c a b) (fun c a b => by rw [show h48 75 = h3 75 from E57]; exact y8_ c a b) (fun c a b => by rw [show h48 76 = h3 76 from E58]; exact y9_ c a b), fun f B e => Or.inr ⟨by omega, by rw [show h48 1 3 = (pt_nt t m (pt_nt t m (pt_nt t m (pt_nt t m (pt_rn pt_bB t m 0))))) from pt_TC_p y64_] at e; exact e⟩⟩) (by rw [pt_TC_p y64_]; exact y64_) (by show 0 ≤ (h48 1 3) ∧ (h48 1 3) ≤ m ∧ 0 ≤ 0 ∧ 0 ≤ 1000 ∧ (h48 3 2) = 0; omega) (by omega)

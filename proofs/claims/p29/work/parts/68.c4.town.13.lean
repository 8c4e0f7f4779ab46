abbrev P_fTown_complete_70 (F : ov_H) (z : ov_Z) (h : ov_H) : Option ov_V → ov_Z → ov_H → Prop := fun r0 z' h' => r0 = none ∧ ov_I F z' h' ∧ (∀ a : Int, (a < 76 ∨ 77 < a) → h' a = h a) ∧ (0 ≤ (h' 76 0)) ∧ (((h 76) 0 = -1 → (h' 76) 0 = 10) ∧ (¬ (h 76) 0 = -1 → (h' 76) 0 = (h 76) 0) ∧ ((h 76) 1 = -1 → (h' 76) 1 = (h' 76) 0) ∧ (¬ (h 76) 1 = -1 → (h' 76) 1 = (h 76) 1) ∧ ((h 76) 2 = -1 → (h' 76) 2 = (h' 76) 0) ∧ (¬ (h 76) 2 = -1 → (h' 76) 2 = (h 76) 2) ∧ ((h 76) 3 = -1 → (h' 76) 3 = 0) ∧ (¬ (h 76) 3 = -1 → (h' 76) 3 = (h 76) 3)) ∧ (∀ j : Int, 0 ≤ j → j < 54 → (h' 77) j = tw_opx (h 70) (h 71) (h 72) (h 74) (h 75) j)
set_option maxHeartbeats 4000000 in
theorem c_fTown_complete_70 {u : ov_U} {F : ov_H} {z : ov_Z} {h : ov_H} (d : Nat) (hd : 2 ≤ d) (U : ov_cap u) (I : ov_I F z h) (hw : ov_kw 226673591177742970257408 F) : ov_T u d ov_m15 [ov_r 70] z h (P_fTown_complete_70 F z h) := by
  refine ov_en rfl (Nat.le_of_ble_eq_true rfl) ?_
  show ov_R u d ov_m15 0 [(0, ov_r 70)] [] z h (P_fTown_complete_70 F z h)
  refine ov_blk (ls2 := [(0, ov_r 70)]) (st2 := [ov_i 10, ov_i 0, ov_r 70]) (pc2 := 4) b_15_0_3 rfl rfl ?_
  refine ov_cV (as := [ov_i 0, ov_i 10]) (st := []) (d2 := d - 1) d_15_4 lk_Town_75 rfl (Nat.le_of_ble_eq_true rfl) (c := 9) (zb_70 I) (zs_70 I) ⟨by decide, rfl⟩ (by omega) (c_fTown_setUnlessTold_70 (d - 1) (by omega) U I (ov_kws hw (by decide +kernel)) 0 10 (by omega) (by omega) (by show 0 ≤ (0 : Int) ∧ (0 : Int) ≤ 3; omega) (by show 0 ≤ (10 : Int) ∧ (10 : Int) ≤ 30 ∧ ((0 : Int) = 3 → (10 : Int) ≤ 9); omega)) ?_
  rintro _ z1 h2 ⟨rfl, I3, y4, y5⟩
  have E6 : h2 70 = h 70 := Eq.trans (y4 70 (by decide)) (show h 70 = h 70 from rfl)
  have E7 : h2 71 = h 71 := Eq.trans (y4 71 (by decide)) (show h 71 = h 71 from rfl)
  have E8 : h2 72 = h 72 := Eq.trans (y4 72 (by decide)) (show h 72 = h 72 from rfl)
  have E9 : h2 74 = h 74 := Eq.trans (y4 74 (by decide)) (show h 74 = h 74 from rfl)
  have E10 : h2 75 = h 75 := Eq.trans (y4 75 (by decide)) (show h 75 = h 75 from rfl)
  have E11 : h2 77 = h 77 := Eq.trans (y4 77 (by decide)) (show h 77 = h 77 from rfl)
  have fr12 : ∀ a : Int, (a < 76 ∨ 77 < a) → h2 a = h a := fun a ca => Eq.trans (y4 a (by omega)) rfl
  have y5_ : (h2 76) = ov_rs (h 76) (0 : Int) (if (h 76) (0 : Int) = -1 then (10 : Int) else (h 76) (0 : Int)) := y5
  show ov_R u d ov_m15 7 [(0, ov_r 70)] [] z1 h2 (P_fTown_complete_70 F z h)
  have sc13 : (h 76 0 = -1 → h2 76 0 = 10) ∧ (¬ h 76 0 = -1 → h2 76 0 = h 76 0) := by have q := congrFun y5_ 0; rw [ov_rs_eq] at q; split at q <;> omega
  have sc14 : h2 76 1 = h 76 1 := by have q := congrFun y5_ 1; rw [ov_rs_ne (by decide)] at q; omega
  have sc15 : h2 76 2 = h 76 2 := by have q := congrFun y5_ 2; rw [ov_rs_ne (by decide)] at q; omega
  have sc16 : h2 76 3 = h 76 3 := by have q := congrFun y5_ 3; rw [ov_rs_ne (by decide)] at q; omega
  have w0 : 0 ≤ h2 76 0 := by have q := congrFun y5_ 0; rw [ov_rs_eq] at q; have g := ra_76 I3 0; split at q <;> omega
  refine ov_blk (ls2 := [(0, ov_r 70)]) (st2 := [ov_r 70, ov_i 1, ov_r 70]) (pc2 := 10) b_15_7_3 rfl rfl ?_
  refine ov_getf (v := ov_r 76) d_15_10 fl_Town_27 (zb_70 I3) (zs_70 I3) (congrArg ov_r (rg_70_7 I3)) ?_
  refine ov_blk (ls2 := [(0, ov_r 70)]) (st2 := [ov_i 0, ov_r 76, ov_i 1, ov_r 70]) (pc2 := 14) b_15_13_1 rfl rfl ?_
  refine ov_iald d_15_14 (zb_76 I3) (zs_76 I3) (by omega) ?_
  show ov_R u d ov_m15 15 [(0, ov_r 70)] [ov_i (h2 76 0), ov_i 1, ov_r 70] z1 h2 (P_fTown_complete_70 F z h)
  have g17 := ra_76 I3 0
  refine ov_cV (as := [ov_i 1, ov_i (h2 76 0)]) (st := []) (d2 := d - 1) d_15_15 lk_Town_75 rfl (Nat.le_of_ble_eq_true rfl) (c := 9) (zb_70 I3) (zs_70 I3) ⟨by decide, rfl⟩ (by omega) (c_fTown_setUnlessTold_70 (d - 1) (by omega) U I3 (ov_kws hw (by decide +kernel)) 1 (h2 76 0) (by omega) (by omega) (by show 0 ≤ (1 : Int) ∧ (1 : Int) ≤ 3; omega) (by show 0 ≤ (h2 76 0) ∧ (h2 76 0) ≤ 30 ∧ ((1 : Int) = 3 → (h2 76 0) ≤ 9); omega)) ?_
  rintro _ z18 h19 ⟨rfl, I20, y21, y22⟩
  have E23 : h19 70 = h 70 := Eq.trans (y21 70 (by decide)) (show h2 70 = h 70 from E6)
  have E24 : h19 71 = h 71 := Eq.trans (y21 71 (by decide)) (show h2 71 = h 71 from E7)
  have E25 : h19 72 = h 72 := Eq.trans (y21 72 (by decide)) (show h2 72 = h 72 from E8)
  have E26 : h19 74 = h 74 := Eq.trans (y21 74 (by decide)) (show h2 74 = h 74 from E9)
  have E27 : h19 75 = h 75 := Eq.trans (y21 75 (by decide)) (show h2 75 = h 75 from E10)
  have E28 : h19 77 = h 77 := Eq.trans (y21 77 (by decide)) (show h2 77 = h 77 from E11)
  have fr29 : ∀ a : Int, (a < 76 ∨ 77 < a) → h19 a = h a := fun a ca => Eq.trans (y21 a (by omega)) (fr12 a ca)
  have y22_ : (h19 76) = ov_rs (h2 76) (1 : Int) (if (h2 76) (1 : Int) = -1 then (h2 76 0) else (h2 76) (1 : Int)) := y22
  show ov_R u d ov_m15 18 [(0, ov_r 70)] [] z18 h19 (P_fTown_complete_70 F z h)
  have sc30 : h19 76 0 = h2 76 0 := by have q := congrFun y22_ 0; rw [ov_rs_ne (by decide)] at q; omega
  have sc31 : (h2 76 1 = -1 → h19 76 1 = (h2 76 0)) ∧ (¬ h2 76 1 = -1 → h19 76 1 = h2 76 1) := by have q := congrFun y22_ 1; rw [ov_rs_eq] at q; split at q <;> omega
  have sc32 : h19 76 2 = h2 76 2 := by have q := congrFun y22_ 2; rw [ov_rs_ne (by decide)] at q; omega
  have sc33 : h19 76 3 = h2 76 3 := by have q := congrFun y22_ 3; rw [ov_rs_ne (by decide)] at q; omega
  have w34 : 0 ≤ h19 76 0 := by have q := congrFun y22_ 0; rw [ov_rs_ne (by decide)] at q; omega
  refine ov_blk (ls2 := [(0, ov_r 70)]) (st2 := [ov_r 70, ov_i 2, ov_r 70]) (pc2 := 21) b_15_18_3 rfl rfl ?_
  refine ov_getf (v := ov_r 76) d_15_21 fl_Town_27 (zb_70 I20) (zs_70 I20) (congrArg ov_r (rg_70_7 I20)) ?_
  refine ov_blk (ls2 := [(0, ov_r 70)]) (st2 := [ov_i 0, ov_r 76, ov_i 2, ov_r 70]) (pc2 := 25) b_15_24_1 rfl rfl ?_
  refine ov_iald d_15_25 (zb_76 I20) (zs_76 I20) (by omega) ?_
  show ov_R u d ov_m15 26 [(0, ov_r 70)] [ov_i (h19 76 0), ov_i 2, ov_r 70] z18 h19 (P_fTown_complete_70 F z h)
  have g35 := ra_76 I20 0
  refine ov_cV (as := [ov_i 2, ov_i (h19 76 0)]) (st := []) (d2 := d - 1) d_15_26 lk_Town_75 rfl (Nat.le_of_ble_eq_true rfl) (c := 9) (zb_70 I20) (zs_70 I20) ⟨by decide, rfl⟩ (by omega) (c_fTown_setUnlessTold_70 (d - 1) (by omega) U I20 (ov_kws hw (by decide +kernel)) 2 (h19 76 0) (by omega) (by omega) (by show 0 ≤ (2 : Int) ∧ (2 : Int) ≤ 3; omega) (by show 0 ≤ (h19 76 0) ∧ (h19 76 0) ≤ 30 ∧ ((2 : Int) = 3 → (h19 76 0) ≤ 9); omega)) ?_
  rintro _ z36 h37 ⟨rfl, I38, y39, y40⟩
  have E41 : h37 70 = h 70 := Eq.trans (y39 70 (by decide)) (show h19 70 = h 70 from E23)
  have E42 : h37 71 = h 71 := Eq.trans (y39 71 (by decide)) (show h19 71 = h 71 from E24)
  have E43 : h37 72 = h 72 := Eq.trans (y39 72 (by decide)) (show h19 72 = h 72 from E25)
  have E44 : h37 74 = h 74 := Eq.trans (y39 74 (by decide)) (show h19 74 = h 74 from E26)
  have E45 : h37 75 = h 75 := Eq.trans (y39 75 (by decide)) (show h19 75 = h 75 from E27)
  have E46 : h37 77 = h 77 := Eq.trans (y39 77 (by decide)) (show h19 77 = h 77 from E28)
  have fr47 : ∀ a : Int, (a < 76 ∨ 77 < a) → h37 a = h a := fun a ca => Eq.trans (y39 a (by omega)) (fr29 a ca)
  have y40_ : (h37 76) = ov_rs (h19 76) (2 : Int) (if (h19 76) (2 : Int) = -1 then (h19 76 0) else (h19 76) (2 : Int)) := y40
  show ov_R u d ov_m15 29 [(0, ov_r 70)] [] z36 h37 (P_fTown_complete_70 F z h)
  have sc48 : h37 76 0 = h19 76 0 := by have q := congrFun y40_ 0; rw [ov_rs_ne (by decide)] at q; omega
  have sc49 : h37 76 1 = h19 76 1 := by have q := congrFun y40_ 1; rw [ov_rs_ne (by decide)] at q; omega
  have sc50 : (h19 76 2 = -1 → h37 76 2 = (h19 76 0)) ∧ (¬ h19 76 2 = -1 → h37 76 2 = h19 76 2) := by have q := congrFun y40_ 2; rw [ov_rs_eq] at q; split at q <;> omega
  have sc51 : h37 76 3 = h19 76 3 := by have q := congrFun y40_ 3; rw [ov_rs_ne (by decide)] at q; omega
  have w52 : 0 ≤ h37 76 0 := by have q := congrFun y40_ 0; rw [ov_rs_ne (by decide)] at q; omega
  refine ov_blk (ls2 := [(0, ov_r 70)]) (st2 := [ov_i 0, ov_i 3, ov_r 70]) (pc2 := 32) b_15_29_3 rfl rfl ?_
  refine ov_cV (as := [ov_i 3, ov_i 0]) (st := []) (d2 := d - 1) d_15_32 lk_Town_75 rfl (Nat.le_of_ble_eq_true rfl) (c := 9) (zb_70 I38) (zs_70 I38) ⟨by decide, rfl⟩ (by omega) (c_fTown_setUnlessTold_70 (d - 1) (by omega) U I38 (ov_kws hw (by decide +kernel)) 3 0 (by omega) (by omega) (by show 0 ≤ (3 : Int) ∧ (3 : Int) ≤ 3; omega) (by show 0 ≤ (0 : Int) ∧ (0 : Int) ≤ 30 ∧ ((3 : Int) = 3 → (0 : Int) ≤ 9); omega)) ?_
  rintro _ z53 h54 ⟨rfl, I55, y56, y57⟩
  have E58 : h54 70 = h 70 := Eq.trans (y56 70 (by decide)) (show h37 70 = h 70 from E41)
  have E59 : h54 71 = h 71 := Eq.trans (y56 71 (by decide)) (show h37 71 = h 71 from E42)
  have E60 : h54 72 = h 72 := Eq.trans (y56 72 (by decide)) (show h37 72 = h 72 from E43)
  have E61 : h54 74 = h 74 := Eq.trans (y56 74 (by decide)) (show h37 74 = h 74 from E44)
  have E62 : h54 75 = h 75 := Eq.trans (y56 75 (by decide)) (show h37 75 = h 75 from E45)
  have E63 : h54 77 = h 77 := Eq.trans (y56 77 (by decide)) (show h37 77 = h 77 from E46)
  have fr64 : ∀ a : Int, (a < 76 ∨ 77 < a) → h54 a = h a := fun a ca => Eq.trans (y56 a (by omega)) (fr47 a ca)
  have y57_ : (h54 76) = ov_rs (h37 76) (3 : Int) (if (h37 76) (3 : Int) = -1 then (0 : Int) else (h37 76) (3 : Int)) := y57
  show ov_R u d ov_m15 35 [(0, ov_r 70)] [] z53 h54 (P_fTown_complete_70 F z h)
  have sc65 : h54 76 0 = h37 76 0 := by have q := congrFun y57_ 0; rw [ov_rs_ne (by decide)] at q; omega
  have sc66 : h54 76 1 = h37 76 1 := by have q := congrFun y57_ 1; rw [ov_rs_ne (by decide)] at q; omega
  have sc67 : h54 76 2 = h37 76 2 := by have q := congrFun y57_ 2; rw [ov_rs_ne (by decide)] at q; omega
  have sc68 : (h37 76 3 = -1 → h54 76 3 = 0) ∧ (¬ h37 76 3 = -1 → h54 76 3 = h37 76 3) := by have q := congrFun y57_ 3; rw [ov_rs_eq] at q; split at q <;> omega
  have w69 : 0 ≤ h54 76 0 := by have q := congrFun y57_ 0; rw [ov_rs_ne (by decide)] at q; omega
  refine ov_blk (ls2 := [(0, ov_r 70), (1, ov_i 0)]) (st2 := []) (pc2 := 37) b_15_35_2 rfl rfl ?_
  have L73 : ∀ (n70 : Nat) (x1 : Int) (z74 : ov_Z) (h75 : ov_H) (I76 : ov_I F z74 h75) (E77 : h75 70 = h 70) (E78 : h75 71 = h 71) (E79 : h75 72 = h 72) (E80 : h75 74 = h 74) (E81 : h75 75 = h 75) (E82 : h75 76 = h54 76) (fr83 : ∀ a : Int, (a < 76 ∨ 77 < a) → h75 a = h a) (xj : ∀ j : Int, 0 ≤ j → j < x1 → (h75 77) j = tw_opx (h 70) (h 71) (h 72) (h 74) (h 75) j) (q72 : 0 ≤ x1 ∧ x1 ≤ 54), 54 - x1 < (n70 : Int) → ov_R u d ov_m15 37 [(0, ov_r 70), (1, ov_i x1)] [] z74 h75 (P_fTown_complete_70 F z h) := by
    intro n70
    induction n70 with
    | zero =>
      intro x1 z74 h75 I76 E77 E78 E79 E80 E81 E82 fr83 xj q72 hn84
      exact absurd hn84 (by omega)
    | succ n70 ih71 =>
      intro x1 z74 h75 I76 E77 E78 E79 E80 E81 E82 fr83 xj q72 hn84
      refine ov_blk (ls2 := [(0, ov_r 70), (1, ov_i x1)]) (st2 := [ov_i 54, ov_i x1]) (pc2 := 40) b_15_37_2 rfl rfl ?_
      refine ov_icge (tgt := 84) d_15_40 (by decide) (by omega) (by omega) (fun c85 => ?_) (fun c85 => ?_)
      · skip
        have cf86 : h75 76 0 = h54 76 0 := congrFun (E82) 0
        exact ov_retv (st := []) d_15_84 rfl ⟨rfl, I76, (fun a ca => (fr83 a ca)), (by show 0 ≤ (h75 76 0); omega), (by have rr : h75 76 = h54 76 := E82; have r0 := congrFun rr 0; have r1 := congrFun rr 1; have r2 := congrFun rr 2; have r3 := congrFun rr 3; refine ⟨fun q => ?_, fun q => ?_, fun q => ?_, fun q => ?_, fun q => ?_, fun q => ?_, fun q => ?_, fun q => ?_⟩ <;> omega), (fun j a b => xj j a (by omega))⟩
      · skip
        refine ov_blk (ls2 := [(0, ov_r 70), (1, ov_i x1)]) (st2 := [ov_r 70]) (pc2 := 44) b_15_43_1 rfl rfl ?_
        refine ov_getf (v := ov_r 77) d_15_44 fl_Town_30 (zb_70 I76) (zs_70 I76) (congrArg ov_r (rg_70_12 I76)) ?_
        refine ov_blk (ls2 := [(0, ov_r 70), (1, ov_i x1)]) (st2 := [ov_i 0, ov_i x1, ov_r 70, ov_i x1, ov_r 77]) (pc2 := 51) b_15_47_4 rfl rfl ?_
        refine ov_cV (as := [ov_i x1, ov_i 0]) (st := [ov_i x1, ov_r 77]) (d2 := d - 1) d_15_51 lk_Town_79 rfl (Nat.le_of_ble_eq_true rfl) (c := 9) (zb_70 I76) (zs_70 I76) ⟨by decide, rfl⟩ (by omega) (c_Town_opens_70_t (d - 1) (by omega) U I76 x1 0 (by omega) (by omega) (by show 0 ≤ x1 ∧ x1 ≤ 53; omega) (by show (0 : Int) = 0 ∨ (0 : Int) = 1; omega)) ?_
        rintro _ _ _ ⟨v87, rfl, rfl, rfl, f88⟩
        have cf89 : h75 70 0 = h 70 0 := congrFun E77 0
        have cf90 : h75 70 1 = h 70 1 := congrFun E77 1
        have f91 : v87 = tw_op (h75 70 0) (h75 70 1) (h75 71 (x1)) (h75 72 (x1)) (h75 74 (x1)) (h75 75 (x1)) x1 (0 : Int) ∧ (v87 = 0 ∨ v87 = 1) ∧ (v87 = 1 → ((0 : Int) = 0 ∧ x1 ≤ 52) ∨ ((0 : Int) = 1 ∧ x1 ≤ 47)) := f88
        clear f88
        show ov_R u d ov_m15 54 [(0, ov_r 70), (1, ov_i x1)] [ov_i v87, ov_i x1, ov_r 77] z74 h75 (P_fTown_complete_70 F z h)
        refine ov_ifeq (tgt := 61) d_15_54 (by decide) (by omega) (fun c92 => ?_) (fun c92 => ?_)
        · skip
          refine ov_blk (ls2 := [(0, ov_r 70), (1, ov_i x1)]) (st2 := [ov_i 1, ov_i x1, ov_r 70, ov_i 0, ov_i x1, ov_r 77]) (pc2 := 65) b_15_61_4 rfl rfl ?_
          refine ov_cV (as := [ov_i x1, ov_i 1]) (st := [ov_i 0, ov_i x1, ov_r 77]) (d2 := d - 1) d_15_65 lk_Town_79 rfl (Nat.le_of_ble_eq_true rfl) (c := 9) (zb_70 I76) (zs_70 I76) ⟨by decide, rfl⟩ (by omega) (c_Town_opens_70_t (d - 1) (by omega) U I76 x1 1 (by omega) (by omega) (by show 0 ≤ x1 ∧ x1 ≤ 53; omega) (by show (1 : Int) = 0 ∨ (1 : Int) = 1; omega)) ?_
          rintro _ _ _ ⟨v93, rfl, rfl, rfl, f94⟩
          have f95 : v93 = tw_op (h75 70 0) (h75 70 1) (h75 71 (x1)) (h75 72 (x1)) (h75 74 (x1)) (h75 75 (x1)) x1 (1 : Int) ∧ (v93 = 0 ∨ v93 = 1) ∧ (v93 = 1 → ((1 : Int) = 0 ∧ x1 ≤ 52) ∨ ((1 : Int) = 1 ∧ x1 ≤ 47)) := f94
          clear f94
          show ov_R u d ov_m15 68 [(0, ov_r 70), (1, ov_i x1)] [ov_i v93, ov_i 0, ov_i x1, ov_r 77] z74 h75 (P_fTown_complete_70 F z h)
          refine ov_ifeq (tgt := 75) d_15_68 (by decide) (by omega) (fun c96 => ?_) (fun c96 => ?_)
          · skip
            refine ov_blk (ls2 := [(0, ov_r 70), (1, ov_i x1)]) (st2 := [ov_i (0 + 0), ov_i x1, ov_r 77]) (pc2 := 77) b_15_75_2 rfl rfl ?_
            refine ov_iast d_15_77 (zb_77 I76) (zs_77 I76) (by omega) ?_
            have I97 := ua_77 (k := x1) (x := (0 + 0)) I76 (by omega) (hw 77 (by decide +kernel))
            refine ov_blk (ls2 := [(0, ov_r 70), (1, ov_i (x1 + 1))]) (st2 := []) (pc2 := 81) b_15_78_1 rfl rfl ?_
            refine ov_goto (tgt := 37) d_15_81 (by decide) ?_
            exact ih71 (x1 + 1) _ _ I97 E77 E78 E79 E80 E81 E82 (fun a ca => Eq.trans (by show (ov_up h75 77 x1 (0 + 0)) a = h75 a; rw [ov_up_ne (by omega)]) (fr83 a ca)) (fun j a b => if e : j = x1 then (by rw [e]; show ov_up _ 77 _ _ 77 _ = tw_opx (h 70) (h 71) (h 72) (h 74) (h 75) _; rw [ov_up_row, ov_rs_eq, ← (show h75 70 = h 70 from E77), ← (show h75 71 = h 71 from E78), ← (show h75 72 = h 72 from E79), ← (show h75 74 = h 74 from E80), ← (show h75 75 = h 75 from E81)]; unfold tw_opx; omega) else (by show ov_up _ 77 _ _ 77 j = tw_opx (h 70) (h 71) (h 72) (h 74) (h 75) j; rw [ov_up_row, ov_rs_ne e]; exact xj j a (by omega))) (by show 0 ≤ (x1 + 1) ∧ (x1 + 1) ≤ 54; omega) (by omega)
          · skip
            refine ov_blk (ls2 := [(0, ov_r 70), (1, ov_i x1)]) (st2 := [ov_i 2, ov_i 0, ov_i x1, ov_r 77]) (pc2 := 72) b_15_71_1 rfl rfl ?_
            refine ov_goto (tgt := 76) d_15_72 (by decide) ?_
            refine ov_blk (ls2 := [(0, ov_r 70), (1, ov_i x1)]) (st2 := [ov_i (0 + 2), ov_i x1, ov_r 77]) (pc2 := 77) b_15_76_1 rfl rfl ?_
            refine ov_iast d_15_77 (zb_77 I76) (zs_77 I76) (by omega) ?_
            have I98 := ua_77 (k := x1) (x := (0 + 2)) I76 (by omega) (hw 77 (by decide +kernel))
            refine ov_blk (ls2 := [(0, ov_r 70), (1, ov_i (x1 + 1))]) (st2 := []) (pc2 := 81) b_15_78_1 rfl rfl ?_
            refine ov_goto (tgt := 37) d_15_81 (by decide) ?_
            exact ih71 (x1 + 1) _ _ I98 E77 E78 E79 E80 E81 E82 (fun a ca => Eq.trans (by show (ov_up h75 77 x1 (0 + 2)) a = h75 a; rw [ov_up_ne (by omega)]) (fr83 a ca)) (fun j a b => if e : j = x1 then (by rw [e]; show ov_up _ 77 _ _ 77 _ = tw_opx (h 70) (h 71) (h 72) (h 74) (h 75) _; rw [ov_up_row, ov_rs_eq, ← (show h75 70 = h 70 from E77), ← (show h75 71 = h 71 from E78), ← (show h75 72 = h 72 from E79), ← (show h75 74 = h 74 from E80), ← (show h75 75 = h 75 from E81)]; unfold tw_opx; omega) else (by show ov_up _ 77 _ _ 77 j = tw_opx (h 70) (h 71) (h 72) (h 74) (h 75) j; rw [ov_up_row, ov_rs_ne e]; exact xj j a (by omega))) (by show 0 ≤ (x1 + 1) ∧ (x1 + 1) ≤ 54; omega) (by omega)
        · skip
          refine ov_blk (ls2 := [(0, ov_r 70), (1, ov_i x1)]) (st2 := [ov_i 1, ov_i x1, ov_r 77]) (pc2 := 58) b_15_57_1 rfl rfl ?_
          refine ov_goto (tgt := 62) d_15_58 (by decide) ?_
          refine ov_blk (ls2 := [(0, ov_r 70), (1, ov_i x1)]) (st2 := [ov_i 1, ov_i x1, ov_r 70, ov_i 1, ov_i x1, ov_r 77]) (pc2 := 65) b_15_62_3 rfl rfl ?_
          refine ov_cV (as := [ov_i x1, ov_i 1]) (st := [ov_i 1, ov_i x1, ov_r 77]) (d2 := d - 1) d_15_65 lk_Town_79 rfl (Nat.le_of_ble_eq_true rfl) (c := 9) (zb_70 I76) (zs_70 I76) ⟨by decide, rfl⟩ (by omega) (c_Town_opens_70_t (d - 1) (by omega) U I76 x1 1 (by omega) (by omega) (by show 0 ≤ x1 ∧ x1 ≤ 53; omega) (by show (1 : Int) = 0 ∨ (1 : Int) = 1; omega)) ?_
          rintro _ _ _ ⟨v99, rfl, rfl, rfl, f100⟩
          have f101 : v99 = tw_op (h75 70 0) (h75 70 1) (h75 71 (x1)) (h75 72 (x1)) (h75 74 (x1)) (h75 75 (x1)) x1 (1 : Int) ∧ (v99 = 0 ∨ v99 = 1) ∧ (v99 = 1 → ((1 : Int) = 0 ∧ x1 ≤ 52) ∨ ((1 : Int) = 1 ∧ x1 ≤ 47)) := f100
          clear f100
          show ov_R u d ov_m15 68 [(0, ov_r 70), (1, ov_i x1)] [ov_i v99, ov_i 1, ov_i x1, ov_r 77] z74 h75 (P_fTown_complete_70 F z h)
          refine ov_ifeq (tgt := 75) d_15_68 (by decide) (by omega) (fun c102 => ?_) (fun c102 => ?_)
          · skip
            refine ov_blk (ls2 := [(0, ov_r 70), (1, ov_i x1)]) (st2 := [ov_i (1 + 0), ov_i x1, ov_r 77]) (pc2 := 77) b_15_75_2 rfl rfl ?_
            refine ov_iast d_15_77 (zb_77 I76) (zs_77 I76) (by omega) ?_
            have I103 := ua_77 (k := x1) (x := (1 + 0)) I76 (by omega) (hw 77 (by decide +kernel))
            refine ov_blk (ls2 := [(0, ov_r 70), (1, ov_i (x1 + 1))]) (st2 := []) (pc2 := 81) b_15_78_1 rfl rfl ?_
            refine ov_goto (tgt := 37) d_15_81 (by decide) ?_
            exact ih71 (x1 + 1) _ _ I103 E77 E78 E79 E80 E81 E82 (fun a ca => Eq.trans (by show (ov_up h75 77 x1 (1 + 0)) a = h75 a; rw [ov_up_ne (by omega)]) (fr83 a ca)) (fun j a b => if e : j = x1 then (by rw [e]; show ov_up _ 77 _ _ 77 _ = tw_opx (h 70) (h 71) (h 72) (h 74) (h 75) _; rw [ov_up_row, ov_rs_eq, ← (show h75 70 = h 70 from E77), ← (show h75 71 = h 71 from E78), ← (show h75 72 = h 72 from E79), ← (show h75 74 = h 74 from E80), ← (show h75 75 = h 75 from E81)]; unfold tw_opx; omega) else (by show ov_up _ 77 _ _ 77 j = tw_opx (h 70) (h 71) (h 72) (h 74) (h 75) j; rw [ov_up_row, ov_rs_ne e]; exact xj j a (by omega))) (by show 0 ≤ (x1 + 1) ∧ (x1 + 1) ≤ 54; omega) (by omega)
          · skip
            refine ov_blk (ls2 := [(0, ov_r 70), (1, ov_i x1)]) (st2 := [ov_i 2, ov_i 1, ov_i x1, ov_r 77]) (pc2 := 72) b_15_71_1 rfl rfl ?_
            refine ov_goto (tgt := 76) d_15_72 (by decide) ?_
            refine ov_blk (ls2 := [(0, ov_r 70), (1, ov_i x1)]) (st2 := [ov_i (1 + 2), ov_i x1, ov_r 77]) (pc2 := 77) b_15_76_1 rfl rfl ?_
            refine ov_iast d_15_77 (zb_77 I76) (zs_77 I76) (by omega) ?_
            have I104 := ua_77 (k := x1) (x := (1 + 2)) I76 (by omega) (hw 77 (by decide +kernel))
            refine ov_blk (ls2 := [(0, ov_r 70), (1, ov_i (x1 + 1))]) (st2 := []) (pc2 := 81) b_15_78_1 rfl rfl ?_
            refine ov_goto (tgt := 37) d_15_81 (by decide) ?_
            exact ih71 (x1 + 1) _ _ I104 E77 E78 E79 E80 E81 E82 (fun a ca => Eq.trans (by show (ov_up h75 77 x1 (1 + 2)) a = h75 a; rw [ov_up_ne (by omega)]) (fr83 a ca)) (fun j a b => if e : j = x1 then (by rw [e]; show ov_up _ 77 _ _ 77 _ = tw_opx (h 70) (h 71) (h 72) (h 74) (h 75) _; rw [ov_up_row, ov_rs_eq, ← (show h75 70 = h 70 from E77), ← (show h75 71 = h 71 from E78), ← (show h75 72 = h 72 from E79), ← (show h75 74 = h 74 from E80), ← (show h75 75 = h 75 from E81)]; unfold tw_opx; omega) else (by show ov_up _ 77 _ _ 77 j = tw_opx (h 70) (h 71) (h 72) (h 74) (h 75) j; rw [ov_up_row, ov_rs_ne e]; exact xj j a (by omega))) (by show 0 ≤ (x1 + 1) ∧ (x1 + 1) ≤ 54; omega) (by omega)
  exact L73 55 0 _ _ I55 E58 E59 E60 E61 E62 rfl (fun a ca => (fr64 a ca)) (fun j a b => by omega) (by show 0 ≤ 0 ∧ 0 ≤ 54; omega) (by omega)

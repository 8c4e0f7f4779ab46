abbrev P_fTown_complete_58 (F : ov_H) (z : ov_Z) (h : ov_H) : Option ov_V → ov_Z → ov_H → Prop := fun r0 z' h' => r0 = none ∧ ov_I F z' h' ∧ (∀ a : Int, (a < 64 ∨ 65 < a) → h' a = h a) ∧ (0 ≤ (h' 64 0))
set_option maxHeartbeats 4000000 in
theorem c_fTown_complete_58 {u : ov_U} {F : ov_H} {z : ov_Z} {h : ov_H} (d : Nat) (hd : 2 ≤ d) (U : ov_cap u) (I : ov_I F z h) (hw : ov_kw 55340232221128654848 F) : ov_T u d ov_m15 [ov_r 58] z h (P_fTown_complete_58 F z h) := by
  refine ov_en rfl (Nat.le_of_ble_eq_true rfl) ?_
  show ov_R u d ov_m15 0 [(0, ov_r 58)] [] z h (P_fTown_complete_58 F z h)
  refine ov_blk (ls2 := [(0, ov_r 58)]) (st2 := [ov_i 10, ov_i 0, ov_r 58]) (pc2 := 4) b_15_0_3 rfl rfl ?_
  refine ov_cV (as := [ov_i 0, ov_i 10]) (st := []) (d2 := d - 1) d_15_4 lk_Town_75 rfl (Nat.le_of_ble_eq_true rfl) (c := 9) (zb_58 I) (zs_58 I) ⟨by decide, rfl⟩ (by omega) (c_fTown_setUnlessTold_58 (d - 1) (by omega) U I (ov_kws hw (by decide +kernel)) 0 10 (by omega) (by omega) (by show 0 ≤ (0 : Int) ∧ (0 : Int) ≤ 3; omega) (by show 0 ≤ (10 : Int) ∧ (10 : Int) ≤ 30 ∧ ((0 : Int) = 3 → (10 : Int) ≤ 9); omega)) ?_
  rintro _ z1 h2 ⟨rfl, I3, y4, y5⟩
  have fr6 : ∀ a : Int, (a < 64 ∨ 65 < a) → h2 a = h a := fun a ca => Eq.trans (y4 a (by omega)) rfl
  have y5_ : (h2 64) = ov_rs (h 64) (0 : Int) (if (h 64) (0 : Int) = -1 then (10 : Int) else (h 64) (0 : Int)) := y5
  show ov_R u d ov_m15 7 [(0, ov_r 58)] [] z1 h2 (P_fTown_complete_58 F z h)
  have w0 : 0 ≤ h2 64 0 := by have q := congrFun y5_ 0; rw [ov_rs_eq] at q; have g := ra_64 I3 0; split at q <;> omega
  refine ov_blk (ls2 := [(0, ov_r 58)]) (st2 := [ov_r 58, ov_i 1, ov_r 58]) (pc2 := 10) b_15_7_3 rfl rfl ?_
  refine ov_getf (v := ov_r 64) d_15_10 fl_Town_27 (zb_58 I3) (zs_58 I3) (congrArg ov_r (rg_58_7 I3)) ?_
  refine ov_blk (ls2 := [(0, ov_r 58)]) (st2 := [ov_i 0, ov_r 64, ov_i 1, ov_r 58]) (pc2 := 14) b_15_13_1 rfl rfl ?_
  refine ov_iald d_15_14 (zb_64 I3) (zs_64 I3) (by omega) ?_
  show ov_R u d ov_m15 15 [(0, ov_r 58)] [ov_i (h2 64 0), ov_i 1, ov_r 58] z1 h2 (P_fTown_complete_58 F z h)
  have g7 := ra_64 I3 0
  refine ov_cV (as := [ov_i 1, ov_i (h2 64 0)]) (st := []) (d2 := d - 1) d_15_15 lk_Town_75 rfl (Nat.le_of_ble_eq_true rfl) (c := 9) (zb_58 I3) (zs_58 I3) ⟨by decide, rfl⟩ (by omega) (c_fTown_setUnlessTold_58 (d - 1) (by omega) U I3 (ov_kws hw (by decide +kernel)) 1 (h2 64 0) (by omega) (by omega) (by show 0 ≤ (1 : Int) ∧ (1 : Int) ≤ 3; omega) (by show 0 ≤ (h2 64 0) ∧ (h2 64 0) ≤ 30 ∧ ((1 : Int) = 3 → (h2 64 0) ≤ 9); omega)) ?_
  rintro _ z8 h9 ⟨rfl, I10, y11, y12⟩
  have fr13 : ∀ a : Int, (a < 64 ∨ 65 < a) → h9 a = h a := fun a ca => Eq.trans (y11 a (by omega)) (fr6 a ca)
  have y12_ : (h9 64) = ov_rs (h2 64) (1 : Int) (if (h2 64) (1 : Int) = -1 then (h2 64 0) else (h2 64) (1 : Int)) := y12
  show ov_R u d ov_m15 18 [(0, ov_r 58)] [] z8 h9 (P_fTown_complete_58 F z h)
  have w14 : 0 ≤ h9 64 0 := by have q := congrFun y12_ 0; rw [ov_rs_ne (by decide)] at q; omega
  refine ov_blk (ls2 := [(0, ov_r 58)]) (st2 := [ov_r 58, ov_i 2, ov_r 58]) (pc2 := 21) b_15_18_3 rfl rfl ?_
  refine ov_getf (v := ov_r 64) d_15_21 fl_Town_27 (zb_58 I10) (zs_58 I10) (congrArg ov_r (rg_58_7 I10)) ?_
  refine ov_blk (ls2 := [(0, ov_r 58)]) (st2 := [ov_i 0, ov_r 64, ov_i 2, ov_r 58]) (pc2 := 25) b_15_24_1 rfl rfl ?_
  refine ov_iald d_15_25 (zb_64 I10) (zs_64 I10) (by omega) ?_
  show ov_R u d ov_m15 26 [(0, ov_r 58)] [ov_i (h9 64 0), ov_i 2, ov_r 58] z8 h9 (P_fTown_complete_58 F z h)
  have g15 := ra_64 I10 0
  refine ov_cV (as := [ov_i 2, ov_i (h9 64 0)]) (st := []) (d2 := d - 1) d_15_26 lk_Town_75 rfl (Nat.le_of_ble_eq_true rfl) (c := 9) (zb_58 I10) (zs_58 I10) ⟨by decide, rfl⟩ (by omega) (c_fTown_setUnlessTold_58 (d - 1) (by omega) U I10 (ov_kws hw (by decide +kernel)) 2 (h9 64 0) (by omega) (by omega) (by show 0 ≤ (2 : Int) ∧ (2 : Int) ≤ 3; omega) (by show 0 ≤ (h9 64 0) ∧ (h9 64 0) ≤ 30 ∧ ((2 : Int) = 3 → (h9 64 0) ≤ 9); omega)) ?_
  rintro _ z16 h17 ⟨rfl, I18, y19, y20⟩
  have fr21 : ∀ a : Int, (a < 64 ∨ 65 < a) → h17 a = h a := fun a ca => Eq.trans (y19 a (by omega)) (fr13 a ca)
  have y20_ : (h17 64) = ov_rs (h9 64) (2 : Int) (if (h9 64) (2 : Int) = -1 then (h9 64 0) else (h9 64) (2 : Int)) := y20
  show ov_R u d ov_m15 29 [(0, ov_r 58)] [] z16 h17 (P_fTown_complete_58 F z h)
  have w22 : 0 ≤ h17 64 0 := by have q := congrFun y20_ 0; rw [ov_rs_ne (by decide)] at q; omega
  refine ov_blk (ls2 := [(0, ov_r 58)]) (st2 := [ov_i 0, ov_i 3, ov_r 58]) (pc2 := 32) b_15_29_3 rfl rfl ?_
  refine ov_cV (as := [ov_i 3, ov_i 0]) (st := []) (d2 := d - 1) d_15_32 lk_Town_75 rfl (Nat.le_of_ble_eq_true rfl) (c := 9) (zb_58 I18) (zs_58 I18) ⟨by decide, rfl⟩ (by omega) (c_fTown_setUnlessTold_58 (d - 1) (by omega) U I18 (ov_kws hw (by decide +kernel)) 3 0 (by omega) (by omega) (by show 0 ≤ (3 : Int) ∧ (3 : Int) ≤ 3; omega) (by show 0 ≤ (0 : Int) ∧ (0 : Int) ≤ 30 ∧ ((3 : Int) = 3 → (0 : Int) ≤ 9); omega)) ?_
  rintro _ z23 h24 ⟨rfl, I25, y26, y27⟩
  have fr28 : ∀ a : Int, (a < 64 ∨ 65 < a) → h24 a = h a := fun a ca => Eq.trans (y26 a (by omega)) (fr21 a ca)
  have y27_ : (h24 64) = ov_rs (h17 64) (3 : Int) (if (h17 64) (3 : Int) = -1 then (0 : Int) else (h17 64) (3 : Int)) := y27
  show ov_R u d ov_m15 35 [(0, ov_r 58)] [] z23 h24 (P_fTown_complete_58 F z h)
  have w29 : 0 ≤ h24 64 0 := by have q := congrFun y27_ 0; rw [ov_rs_ne (by decide)] at q; omega
  refine ov_blk (ls2 := [(0, ov_r 58), (1, ov_i 0)]) (st2 := []) (pc2 := 37) b_15_35_2 rfl rfl ?_
  have L33 : ∀ (n30 : Nat) (x1 : Int) (z34 : ov_Z) (h35 : ov_H) (I36 : ov_I F z34 h35) (E37 : h35 64 = h24 64) (fr38 : ∀ a : Int, (a < 64 ∨ 65 < a) → h35 a = h a) (q32 : 0 ≤ x1 ∧ x1 ≤ 54), 54 - x1 < (n30 : Int) → ov_R u d ov_m15 37 [(0, ov_r 58), (1, ov_i x1)] [] z34 h35 (P_fTown_complete_58 F z h) := by
    intro n30
    induction n30 with
    | zero =>
      intro x1 z34 h35 I36 E37 fr38 q32 hn39
      exact absurd hn39 (by omega)
    | succ n30 ih31 =>
      intro x1 z34 h35 I36 E37 fr38 q32 hn39
      refine ov_blk (ls2 := [(0, ov_r 58), (1, ov_i x1)]) (st2 := [ov_i 54, ov_i x1]) (pc2 := 40) b_15_37_2 rfl rfl ?_
      refine ov_icge (tgt := 84) d_15_40 (by decide) (by omega) (by omega) (fun c40 => ?_) (fun c40 => ?_)
      · skip
        have cf41 : h35 64 0 = h24 64 0 := congrFun (E37) 0
        exact ov_retv (st := []) d_15_84 rfl ⟨rfl, I36, (fun a ca => (fr38 a ca)), (by show 0 ≤ (h35 64 0); omega)⟩
      · skip
        refine ov_blk (ls2 := [(0, ov_r 58), (1, ov_i x1)]) (st2 := [ov_r 58]) (pc2 := 44) b_15_43_1 rfl rfl ?_
        refine ov_getf (v := ov_r 65) d_15_44 fl_Town_30 (zb_58 I36) (zs_58 I36) (congrArg ov_r (rg_58_12 I36)) ?_
        refine ov_blk (ls2 := [(0, ov_r 58), (1, ov_i x1)]) (st2 := [ov_i 0, ov_i x1, ov_r 58, ov_i x1, ov_r 65]) (pc2 := 51) b_15_47_4 rfl rfl ?_
        refine ov_cV (as := [ov_i x1, ov_i 0]) (st := [ov_i x1, ov_r 65]) (d2 := d - 1) d_15_51 lk_Town_79 rfl (Nat.le_of_ble_eq_true rfl) (c := 9) (zb_58 I36) (zs_58 I36) ⟨by decide, rfl⟩ (by omega) (c_Town_opens_58 (d - 1) (by omega) U I36 x1 0 (by omega) (by omega) (by show 0 ≤ x1 ∧ x1 ≤ 53; omega) (by show (0 : Int) = 0 ∨ (0 : Int) = 1; omega)) ?_
        rintro _ _ _ ⟨v42, rfl, rfl, rfl, f43⟩
        have f44 : (v42 = 0 ∨ v42 = 1) ∧ (v42 = 1 → ((0 : Int) = 0 ∧ x1 ≤ 52) ∨ ((0 : Int) = 1 ∧ x1 ≤ 47)) := f43
        clear f43
        show ov_R u d ov_m15 54 [(0, ov_r 58), (1, ov_i x1)] [ov_i v42, ov_i x1, ov_r 65] z34 h35 (P_fTown_complete_58 F z h)
        refine ov_ifeq (tgt := 61) d_15_54 (by decide) (by omega) (fun c45 => ?_) (fun c45 => ?_)
        · skip
          refine ov_blk (ls2 := [(0, ov_r 58), (1, ov_i x1)]) (st2 := [ov_i 1, ov_i x1, ov_r 58, ov_i 0, ov_i x1, ov_r 65]) (pc2 := 65) b_15_61_4 rfl rfl ?_
          refine ov_cV (as := [ov_i x1, ov_i 1]) (st := [ov_i 0, ov_i x1, ov_r 65]) (d2 := d - 1) d_15_65 lk_Town_79 rfl (Nat.le_of_ble_eq_true rfl) (c := 9) (zb_58 I36) (zs_58 I36) ⟨by decide, rfl⟩ (by omega) (c_Town_opens_58 (d - 1) (by omega) U I36 x1 1 (by omega) (by omega) (by show 0 ≤ x1 ∧ x1 ≤ 53; omega) (by show (1 : Int) = 0 ∨ (1 : Int) = 1; omega)) ?_
          rintro _ _ _ ⟨v46, rfl, rfl, rfl, f47⟩
          have f48 : (v46 = 0 ∨ v46 = 1) ∧ (v46 = 1 → ((1 : Int) = 0 ∧ x1 ≤ 52) ∨ ((1 : Int) = 1 ∧ x1 ≤ 47)) := f47
          clear f47
          show ov_R u d ov_m15 68 [(0, ov_r 58), (1, ov_i x1)] [ov_i v46, ov_i 0, ov_i x1, ov_r 65] z34 h35 (P_fTown_complete_58 F z h)
          refine ov_ifeq (tgt := 75) d_15_68 (by decide) (by omega) (fun c49 => ?_) (fun c49 => ?_)
          · skip
            refine ov_blk (ls2 := [(0, ov_r 58), (1, ov_i x1)]) (st2 := [ov_i (0 + 0), ov_i x1, ov_r 65]) (pc2 := 77) b_15_75_2 rfl rfl ?_
            refine ov_iast d_15_77 (zb_65 I36) (zs_65 I36) (by omega) ?_
            have I50 := ua_65 (k := x1) (x := (0 + 0)) I36 (by omega) (hw 65 (by decide +kernel))
            refine ov_blk (ls2 := [(0, ov_r 58), (1, ov_i (x1 + 1))]) (st2 := []) (pc2 := 81) b_15_78_1 rfl rfl ?_
            refine ov_goto (tgt := 37) d_15_81 (by decide) ?_
            exact ih31 (x1 + 1) _ _ I50 E37 (fun a ca => Eq.trans (by show (ov_up h35 65 x1 (0 + 0)) a = h35 a; rw [ov_up_ne (by omega)]) (fr38 a ca)) (by show 0 ≤ (x1 + 1) ∧ (x1 + 1) ≤ 54; omega) (by omega)
          · skip
            refine ov_blk (ls2 := [(0, ov_r 58), (1, ov_i x1)]) (st2 := [ov_i 2, ov_i 0, ov_i x1, ov_r 65]) (pc2 := 72) b_15_71_1 rfl rfl ?_
            refine ov_goto (tgt := 76) d_15_72 (by decide) ?_
            refine ov_blk (ls2 := [(0, ov_r 58), (1, ov_i x1)]) (st2 := [ov_i (0 + 2), ov_i x1, ov_r 65]) (pc2 := 77) b_15_76_1 rfl rfl ?_
            refine ov_iast d_15_77 (zb_65 I36) (zs_65 I36) (by omega) ?_
            have I51 := ua_65 (k := x1) (x := (0 + 2)) I36 (by omega) (hw 65 (by decide +kernel))
            refine ov_blk (ls2 := [(0, ov_r 58), (1, ov_i (x1 + 1))]) (st2 := []) (pc2 := 81) b_15_78_1 rfl rfl ?_
            refine ov_goto (tgt := 37) d_15_81 (by decide) ?_
            exact ih31 (x1 + 1) _ _ I51 E37 (fun a ca => Eq.trans (by show (ov_up h35 65 x1 (0 + 2)) a = h35 a; rw [ov_up_ne (by omega)]) (fr38 a ca)) (by show 0 ≤ (x1 + 1) ∧ (x1 + 1) ≤ 54; omega) (by omega)
        · skip
          refine ov_blk (ls2 := [(0, ov_r 58), (1, ov_i x1)]) (st2 := [ov_i 1, ov_i x1, ov_r 65]) (pc2 := 58) b_15_57_1 rfl rfl ?_
          refine ov_goto (tgt := 62) d_15_58 (by decide) ?_
          refine ov_blk (ls2 := [(0, ov_r 58), (1, ov_i x1)]) (st2 := [ov_i 1, ov_i x1, ov_r 58, ov_i 1, ov_i x1, ov_r 65]) (pc2 := 65) b_15_62_3 rfl rfl ?_
          refine ov_cV (as := [ov_i x1, ov_i 1]) (st := [ov_i 1, ov_i x1, ov_r 65]) (d2 := d - 1) d_15_65 lk_Town_79 rfl (Nat.le_of_ble_eq_true rfl) (c := 9) (zb_58 I36) (zs_58 I36) ⟨by decide, rfl⟩ (by omega) (c_Town_opens_58 (d - 1) (by omega) U I36 x1 1 (by omega) (by omega) (by show 0 ≤ x1 ∧ x1 ≤ 53; omega) (by show (1 : Int) = 0 ∨ (1 : Int) = 1; omega)) ?_
          rintro _ _ _ ⟨v52, rfl, rfl, rfl, f53⟩
          have f54 : (v52 = 0 ∨ v52 = 1) ∧ (v52 = 1 → ((1 : Int) = 0 ∧ x1 ≤ 52) ∨ ((1 : Int) = 1 ∧ x1 ≤ 47)) := f53
          clear f53
          show ov_R u d ov_m15 68 [(0, ov_r 58), (1, ov_i x1)] [ov_i v52, ov_i 1, ov_i x1, ov_r 65] z34 h35 (P_fTown_complete_58 F z h)
          refine ov_ifeq (tgt := 75) d_15_68 (by decide) (by omega) (fun c55 => ?_) (fun c55 => ?_)
          · skip
            refine ov_blk (ls2 := [(0, ov_r 58), (1, ov_i x1)]) (st2 := [ov_i (1 + 0), ov_i x1, ov_r 65]) (pc2 := 77) b_15_75_2 rfl rfl ?_
            refine ov_iast d_15_77 (zb_65 I36) (zs_65 I36) (by omega) ?_
            have I56 := ua_65 (k := x1) (x := (1 + 0)) I36 (by omega) (hw 65 (by decide +kernel))
            refine ov_blk (ls2 := [(0, ov_r 58), (1, ov_i (x1 + 1))]) (st2 := []) (pc2 := 81) b_15_78_1 rfl rfl ?_
            refine ov_goto (tgt := 37) d_15_81 (by decide) ?_
            exact ih31 (x1 + 1) _ _ I56 E37 (fun a ca => Eq.trans (by show (ov_up h35 65 x1 (1 + 0)) a = h35 a; rw [ov_up_ne (by omega)]) (fr38 a ca)) (by show 0 ≤ (x1 + 1) ∧ (x1 + 1) ≤ 54; omega) (by omega)
          · skip
            refine ov_blk (ls2 := [(0, ov_r 58), (1, ov_i x1)]) (st2 := [ov_i 2, ov_i 1, ov_i x1, ov_r 65]) (pc2 := 72) b_15_71_1 rfl rfl ?_
            refine ov_goto (tgt := 76) d_15_72 (by decide) ?_
            refine ov_blk (ls2 := [(0, ov_r 58), (1, ov_i x1)]) (st2 := [ov_i (1 + 2), ov_i x1, ov_r 65]) (pc2 := 77) b_15_76_1 rfl rfl ?_
            refine ov_iast d_15_77 (zb_65 I36) (zs_65 I36) (by omega) ?_
            have I57 := ua_65 (k := x1) (x := (1 + 2)) I36 (by omega) (hw 65 (by decide +kernel))
            refine ov_blk (ls2 := [(0, ov_r 58), (1, ov_i (x1 + 1))]) (st2 := []) (pc2 := 81) b_15_78_1 rfl rfl ?_
            refine ov_goto (tgt := 37) d_15_81 (by decide) ?_
            exact ih31 (x1 + 1) _ _ I57 E37 (fun a ca => Eq.trans (by show (ov_up h35 65 x1 (1 + 2)) a = h35 a; rw [ov_up_ne (by omega)]) (fr38 a ca)) (by show 0 ≤ (x1 + 1) ∧ (x1 + 1) ≤ 54; omega) (by omega)
  exact L33 55 0 _ _ I25 rfl (fun a ca => (fr28 a ca)) (by show 0 ≤ 0 ∧ 0 ≤ 54; omega) (by omega)

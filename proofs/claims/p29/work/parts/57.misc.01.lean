abbrev P_Mo_asks_90 (F : ov_H × ov_Z) (z : ov_Z) (h : ov_H) (go : Int) (wo : Int) (cn : Int) (sd : Int) : Option ov_V → ov_Z → ov_H → Prop := fun r0 z' h' => r0 = none ∧ ov_N F z' h' ∧ ((h' 90 2) = (h 90 2) ∧ (h' 90 7) = (h 90 7) ∧ (h' 90 8) = (h 90 8) ∧ (h' 90 13) = (h 90 13) ∧ (h' 90 20) = (h 90 20) ∧ (h' 90 22) = (h 90 22) ∧ (h' 90 34) = (h 90 34) ∧ (h' 90 26) = go ∧ (h' 90 27) = wo ∧ (h' 90 28) = (h 90 22) ∧ (h' 90 29) = cn ∧ (h' 90 30) = sd ∧ (((h' 90 25) = (h 90 25) + 1) ∨ ((h' 90 25) = (h 90 25) ∧ (h 90 26) = go ∧ (h 90 27) = wo ∧ (h 90 28) = (h 90 22) ∧ (h 90 29) = cn ∧ (h 90 30) = sd))) ∧ h' 91 = h 91 ∧ h' 92 = h 92 ∧ h' 93 = h 93 ∧ h' 94 = h 94 ∧ h' 95 = h 95 ∧ h' 96 = h 96 ∧ h' 97 = h 97 ∧ h' 98 = h 98 ∧ h' 99 = h 99 ∧ h' 100 = h 100 ∧ h' 103 = h 103 ∧ h' 104 = h 104 ∧ h' 105 = h 105 ∧ h' 106 = h 106 ∧ h' 109 = h 109 ∧ h' 114 = h 114
set_option maxHeartbeats 4000000 in
theorem c_Mo_asks_90 {u : ov_U} {F : ov_H × ov_Z} {z : ov_Z} {h : ov_H} (d : Nat) (hd : 0 ≤ d) (U : ov_cap u) (I : ov_N F z h) (go : Int) (wo : Int) (cn : Int) (sd : Int) (g_go : ov_g go) (g_wo : wo = 0 ∨ wo = 1) (g_cn : ov_g cn) (g_sd : ov_g sd) (p0 : -1 ≤ go ∧ go ≤ 7) (p1 : -1 ≤ cn ∧ cn ≤ 53) (p2 : 0 ≤ sd ∧ sd ≤ 59) (p3 : 0 ≤ (h 90 25) ∧ (h 90 25) ≤ 2000000000) : ov_T u d ov_m271 [ov_r 90, ov_i go, ov_i wo, ov_i cn, ov_i sd] z h (P_Mo_asks_90 F z h go wo cn sd) := by
  refine ov_en rfl (Nat.le_of_ble_eq_true rfl) ?_
  show ov_R u d ov_m271 0 [(0, ov_r 90), (1, ov_i go), (2, ov_i wo), (3, ov_i cn), (4, ov_i sd)] [] z h (P_Mo_asks_90 F z h go wo cn sd)
  have t0 := t96_0 I
  have t1 := t96_1 I
  refine ov_blk (ls2 := [(0, ov_r 90), (1, ov_i go), (2, ov_i wo), (3, ov_i cn), (4, ov_i sd)]) (st2 := [ov_r 90]) (pc2 := 1) b_271_0_1 rfl rfl ?_
  refine ov_getf (v := ov_i (h 90 26)) d_271_1 fl_Mo_116 (zb_90 I) (zs_90 I) rfl ?_
  have g1 := rg_90_26 I
  refine ov_blk (ls2 := [(0, ov_r 90), (1, ov_i go), (2, ov_i wo), (3, ov_i cn), (4, ov_i sd)]) (st2 := [ov_i go, ov_i (h 90 26)]) (pc2 := 5) b_271_4_1 rfl rfl ?_
  refine ov_icne (tgt := 44) d_271_5 (by decide) (by omega) (by omega) (fun c2 => ?_) (fun c2 => ?_)
  · skip
    refine ov_blk (ls2 := [(0, ov_r 90), (1, ov_i go), (2, ov_i wo), (3, ov_i cn), (4, ov_i sd)]) (st2 := [ov_i go, ov_r 90]) (pc2 := 46) b_271_44_2 rfl rfl ?_
    refine ov_putf (x := go) d_271_46 fl_Mo_116 (zb_90 I) (zs_90 I) rfl nk_0 rfl ?_
    have I3 := up_90_26 (x := go) I (by omega)
    refine ov_blk (ls2 := [(0, ov_r 90), (1, ov_i go), (2, ov_i wo), (3, ov_i cn), (4, ov_i sd)]) (st2 := [ov_i wo, ov_r 90]) (pc2 := 51) b_271_49_2 rfl rfl ?_
    refine ov_putf (x := wo) d_271_51 fl_Mo_349 (zb_90 I3) (zs_90 I3) rfl (nk_3 (by omega)) rfl ?_
    have I4 := up_90_27 (x := wo) I3 (by omega)
    refine ov_blk (ls2 := [(0, ov_r 90), (1, ov_i go), (2, ov_i wo), (3, ov_i cn), (4, ov_i sd)]) (st2 := [ov_r 90, ov_r 90]) (pc2 := 56) b_271_54_2 rfl rfl ?_
    refine ov_getf (v := ov_i (h 90 22)) d_271_56 fl_Mo_322 (zb_90 I4) (zs_90 I4) rfl ?_
    have g5 := rg_90_22 I
    refine ov_putf (x := (h 90 22)) d_271_59 fl_Mo_353 (zb_90 I4) (zs_90 I4) rfl nk_0 rfl ?_
    have I6 := up_90_28 (x := (h 90 22)) I4 (by omega)
    refine ov_blk (ls2 := [(0, ov_r 90), (1, ov_i go), (2, ov_i wo), (3, ov_i cn), (4, ov_i sd)]) (st2 := [ov_i cn, ov_r 90]) (pc2 := 64) b_271_62_2 rfl rfl ?_
    refine ov_putf (x := cn) d_271_64 fl_Mo_119 (zb_90 I6) (zs_90 I6) rfl nk_0 rfl ?_
    have I7 := up_90_29 (x := cn) I6 (by omega)
    refine ov_blk (ls2 := [(0, ov_r 90), (1, ov_i go), (2, ov_i wo), (3, ov_i cn), (4, ov_i sd)]) (st2 := [ov_i sd, ov_r 90]) (pc2 := 70) b_271_67_2 rfl rfl ?_
    refine ov_putf (x := sd) d_271_70 fl_Mo_356 (zb_90 I7) (zs_90 I7) rfl nk_0 rfl ?_
    have I8 := up_90_30 (x := sd) I7 (by omega)
    refine ov_blk (ls2 := [(0, ov_r 90), (1, ov_i go), (2, ov_i wo), (3, ov_i cn), (4, ov_i sd)]) (st2 := [ov_r 90, ov_r 90]) (pc2 := 75) b_271_73_2 rfl rfl ?_
    refine ov_getf (v := ov_i (h 90 25)) d_271_75 fl_Mo_359 (zb_90 I8) (zs_90 I8) rfl ?_
    have g9 := rg_90_25 I
    refine ov_blk (ls2 := [(0, ov_r 90), (1, ov_i go), (2, ov_i wo), (3, ov_i cn), (4, ov_i sd)]) (st2 := [ov_i ((h 90 25) + 1), ov_r 90]) (pc2 := 80) b_271_78_2 rfl rfl ?_
    refine ov_putf (x := ((h 90 25) + 1)) d_271_80 fl_Mo_359 (zb_90 I8) (zs_90 I8) rfl nk_0 rfl ?_
    have I10 := up_90_25 (x := ((h 90 25) + 1)) I8 (by omega)
    exact ov_retv (st := []) d_271_83 rfl ⟨rfl, I10, ⟨rfl, rfl, rfl, rfl, rfl, rfl, rfl, (by show go = go ∧ wo = wo ∧ (h 90 22) = (h 90 22) ∧ cn = cn ∧ sd = sd ∧ ((((h 90 25) + 1) = (h 90 25) + 1) ∨ (((h 90 25) + 1) = (h 90 25) ∧ (h 90 26) = go ∧ (h 90 27) = wo ∧ (h 90 28) = (h 90 22) ∧ (h 90 29) = cn ∧ (h 90 30) = sd)); omega)⟩, rfl, rfl, rfl, rfl, rfl, rfl, rfl, rfl, rfl, rfl, rfl, rfl, rfl, rfl, rfl, rfl⟩
  · skip
    refine ov_blk (ls2 := [(0, ov_r 90), (1, ov_i go), (2, ov_i wo), (3, ov_i cn), (4, ov_i sd)]) (st2 := [ov_r 90]) (pc2 := 9) b_271_8_1 rfl rfl ?_
    refine ov_getf (v := ov_i (h 90 27)) d_271_9 fl_Mo_349 (zb_90 I) (zs_90 I) rfl ?_
    have g11 := rg_90_27 I
    refine ov_blk (ls2 := [(0, ov_r 90), (1, ov_i go), (2, ov_i wo), (3, ov_i cn), (4, ov_i sd)]) (st2 := [ov_i wo, ov_i (h 90 27)]) (pc2 := 13) b_271_12_1 rfl rfl ?_
    refine ov_icne (tgt := 44) d_271_13 (by decide) (by omega) (by omega) (fun c12 => ?_) (fun c12 => ?_)
    · skip
      refine ov_blk (ls2 := [(0, ov_r 90), (1, ov_i go), (2, ov_i wo), (3, ov_i cn), (4, ov_i sd)]) (st2 := [ov_i go, ov_r 90]) (pc2 := 46) b_271_44_2 rfl rfl ?_
      refine ov_putf (x := go) d_271_46 fl_Mo_116 (zb_90 I) (zs_90 I) rfl nk_0 rfl ?_
      have I13 := up_90_26 (x := go) I (by omega)
      refine ov_blk (ls2 := [(0, ov_r 90), (1, ov_i go), (2, ov_i wo), (3, ov_i cn), (4, ov_i sd)]) (st2 := [ov_i wo, ov_r 90]) (pc2 := 51) b_271_49_2 rfl rfl ?_
      refine ov_putf (x := wo) d_271_51 fl_Mo_349 (zb_90 I13) (zs_90 I13) rfl (nk_3 (by omega)) rfl ?_
      have I14 := up_90_27 (x := wo) I13 (by omega)
      refine ov_blk (ls2 := [(0, ov_r 90), (1, ov_i go), (2, ov_i wo), (3, ov_i cn), (4, ov_i sd)]) (st2 := [ov_r 90, ov_r 90]) (pc2 := 56) b_271_54_2 rfl rfl ?_
      refine ov_getf (v := ov_i (h 90 22)) d_271_56 fl_Mo_322 (zb_90 I14) (zs_90 I14) rfl ?_
      have g15 := rg_90_22 I
      refine ov_putf (x := (h 90 22)) d_271_59 fl_Mo_353 (zb_90 I14) (zs_90 I14) rfl nk_0 rfl ?_
      have I16 := up_90_28 (x := (h 90 22)) I14 (by omega)
      refine ov_blk (ls2 := [(0, ov_r 90), (1, ov_i go), (2, ov_i wo), (3, ov_i cn), (4, ov_i sd)]) (st2 := [ov_i cn, ov_r 90]) (pc2 := 64) b_271_62_2 rfl rfl ?_
      refine ov_putf (x := cn) d_271_64 fl_Mo_119 (zb_90 I16) (zs_90 I16) rfl nk_0 rfl ?_
      have I17 := up_90_29 (x := cn) I16 (by omega)
      refine ov_blk (ls2 := [(0, ov_r 90), (1, ov_i go), (2, ov_i wo), (3, ov_i cn), (4, ov_i sd)]) (st2 := [ov_i sd, ov_r 90]) (pc2 := 70) b_271_67_2 rfl rfl ?_
      refine ov_putf (x := sd) d_271_70 fl_Mo_356 (zb_90 I17) (zs_90 I17) rfl nk_0 rfl ?_
      have I18 := up_90_30 (x := sd) I17 (by omega)
      refine ov_blk (ls2 := [(0, ov_r 90), (1, ov_i go), (2, ov_i wo), (3, ov_i cn), (4, ov_i sd)]) (st2 := [ov_r 90, ov_r 90]) (pc2 := 75) b_271_73_2 rfl rfl ?_
      refine ov_getf (v := ov_i (h 90 25)) d_271_75 fl_Mo_359 (zb_90 I18) (zs_90 I18) rfl ?_
      have g19 := rg_90_25 I
      refine ov_blk (ls2 := [(0, ov_r 90), (1, ov_i go), (2, ov_i wo), (3, ov_i cn), (4, ov_i sd)]) (st2 := [ov_i ((h 90 25) + 1), ov_r 90]) (pc2 := 80) b_271_78_2 rfl rfl ?_
      refine ov_putf (x := ((h 90 25) + 1)) d_271_80 fl_Mo_359 (zb_90 I18) (zs_90 I18) rfl nk_0 rfl ?_
      have I20 := up_90_25 (x := ((h 90 25) + 1)) I18 (by omega)
      exact ov_retv (st := []) d_271_83 rfl ⟨rfl, I20, ⟨rfl, rfl, rfl, rfl, rfl, rfl, rfl, (by show go = go ∧ wo = wo ∧ (h 90 22) = (h 90 22) ∧ cn = cn ∧ sd = sd ∧ ((((h 90 25) + 1) = (h 90 25) + 1) ∨ (((h 90 25) + 1) = (h 90 25) ∧ (h 90 26) = go ∧ (h 90 27) = wo ∧ (h 90 28) = (h 90 22) ∧ (h 90 29) = cn ∧ (h 90 30) = sd)); omega)⟩, rfl, rfl, rfl, rfl, rfl, rfl, rfl, rfl, rfl, rfl, rfl, rfl, rfl, rfl, rfl, rfl⟩
    · skip
      refine ov_blk (ls2 := [(0, ov_r 90), (1, ov_i go), (2, ov_i wo), (3, ov_i cn), (4, ov_i sd)]) (st2 := [ov_r 90]) (pc2 := 17) b_271_16_1 rfl rfl ?_
      refine ov_getf (v := ov_i (h 90 28)) d_271_17 fl_Mo_353 (zb_90 I) (zs_90 I) rfl ?_
      have g21 := rg_90_28 I
      refine ov_blk (ls2 := [(0, ov_r 90), (1, ov_i go), (2, ov_i wo), (3, ov_i cn), (4, ov_i sd)]) (st2 := [ov_r 90, ov_i (h 90 28)]) (pc2 := 21) b_271_20_1 rfl rfl ?_
      refine ov_getf (v := ov_i (h 90 22)) d_271_21 fl_Mo_322 (zb_90 I) (zs_90 I) rfl ?_
      have g22 := rg_90_22 I
      refine ov_icne (tgt := 44) d_271_24 (by decide) (by omega) (by omega) (fun c23 => ?_) (fun c23 => ?_)
      · skip
        refine ov_blk (ls2 := [(0, ov_r 90), (1, ov_i go), (2, ov_i wo), (3, ov_i cn), (4, ov_i sd)]) (st2 := [ov_i go, ov_r 90]) (pc2 := 46) b_271_44_2 rfl rfl ?_
        refine ov_putf (x := go) d_271_46 fl_Mo_116 (zb_90 I) (zs_90 I) rfl nk_0 rfl ?_
        have I24 := up_90_26 (x := go) I (by omega)
        refine ov_blk (ls2 := [(0, ov_r 90), (1, ov_i go), (2, ov_i wo), (3, ov_i cn), (4, ov_i sd)]) (st2 := [ov_i wo, ov_r 90]) (pc2 := 51) b_271_49_2 rfl rfl ?_
        refine ov_putf (x := wo) d_271_51 fl_Mo_349 (zb_90 I24) (zs_90 I24) rfl (nk_3 (by omega)) rfl ?_
        have I25 := up_90_27 (x := wo) I24 (by omega)
        refine ov_blk (ls2 := [(0, ov_r 90), (1, ov_i go), (2, ov_i wo), (3, ov_i cn), (4, ov_i sd)]) (st2 := [ov_r 90, ov_r 90]) (pc2 := 56) b_271_54_2 rfl rfl ?_
        refine ov_getf (v := ov_i (h 90 22)) d_271_56 fl_Mo_322 (zb_90 I25) (zs_90 I25) rfl ?_
        refine ov_putf (x := (h 90 22)) d_271_59 fl_Mo_353 (zb_90 I25) (zs_90 I25) rfl nk_0 rfl ?_
        have I27 := up_90_28 (x := (h 90 22)) I25 (by omega)
        refine ov_blk (ls2 := [(0, ov_r 90), (1, ov_i go), (2, ov_i wo), (3, ov_i cn), (4, ov_i sd)]) (st2 := [ov_i cn, ov_r 90]) (pc2 := 64) b_271_62_2 rfl rfl ?_
        refine ov_putf (x := cn) d_271_64 fl_Mo_119 (zb_90 I27) (zs_90 I27) rfl nk_0 rfl ?_
        have I28 := up_90_29 (x := cn) I27 (by omega)
        refine ov_blk (ls2 := [(0, ov_r 90), (1, ov_i go), (2, ov_i wo), (3, ov_i cn), (4, ov_i sd)]) (st2 := [ov_i sd, ov_r 90]) (pc2 := 70) b_271_67_2 rfl rfl ?_
        refine ov_putf (x := sd) d_271_70 fl_Mo_356 (zb_90 I28) (zs_90 I28) rfl nk_0 rfl ?_
        have I29 := up_90_30 (x := sd) I28 (by omega)
        refine ov_blk (ls2 := [(0, ov_r 90), (1, ov_i go), (2, ov_i wo), (3, ov_i cn), (4, ov_i sd)]) (st2 := [ov_r 90, ov_r 90]) (pc2 := 75) b_271_73_2 rfl rfl ?_
        refine ov_getf (v := ov_i (h 90 25)) d_271_75 fl_Mo_359 (zb_90 I29) (zs_90 I29) rfl ?_
        have g30 := rg_90_25 I
        refine ov_blk (ls2 := [(0, ov_r 90), (1, ov_i go), (2, ov_i wo), (3, ov_i cn), (4, ov_i sd)]) (st2 := [ov_i ((h 90 25) + 1), ov_r 90]) (pc2 := 80) b_271_78_2 rfl rfl ?_
        refine ov_putf (x := ((h 90 25) + 1)) d_271_80 fl_Mo_359 (zb_90 I29) (zs_90 I29) rfl nk_0 rfl ?_
        have I31 := up_90_25 (x := ((h 90 25) + 1)) I29 (by omega)
        exact ov_retv (st := []) d_271_83 rfl ⟨rfl, I31, ⟨rfl, rfl, rfl, rfl, rfl, rfl, rfl, (by show go = go ∧ wo = wo ∧ (h 90 22) = (h 90 22) ∧ cn = cn ∧ sd = sd ∧ ((((h 90 25) + 1) = (h 90 25) + 1) ∨ (((h 90 25) + 1) = (h 90 25) ∧ (h 90 26) = go ∧ (h 90 27) = wo ∧ (h 90 28) = (h 90 22) ∧ (h 90 29) = cn ∧ (h 90 30) = sd)); omega)⟩, rfl, rfl, rfl, rfl, rfl, rfl, rfl, rfl, rfl, rfl, rfl, rfl, rfl, rfl, rfl, rfl⟩
      · skip
        refine ov_blk (ls2 := [(0, ov_r 90), (1, ov_i go), (2, ov_i wo), (3, ov_i cn), (4, ov_i sd)]) (st2 := [ov_r 90]) (pc2 := 28) b_271_27_1 rfl rfl ?_
        refine ov_getf (v := ov_i (h 90 29)) d_271_28 fl_Mo_119 (zb_90 I) (zs_90 I) rfl ?_
        have g32 := rg_90_29 I
        refine ov_blk (ls2 := [(0, ov_r 90), (1, ov_i go), (2, ov_i wo), (3, ov_i cn), (4, ov_i sd)]) (st2 := [ov_i cn, ov_i (h 90 29)]) (pc2 := 32) b_271_31_1 rfl rfl ?_
        refine ov_icne (tgt := 44) d_271_32 (by decide) (by omega) (by omega) (fun c33 => ?_) (fun c33 => ?_)
        · skip
          refine ov_blk (ls2 := [(0, ov_r 90), (1, ov_i go), (2, ov_i wo), (3, ov_i cn), (4, ov_i sd)]) (st2 := [ov_i go, ov_r 90]) (pc2 := 46) b_271_44_2 rfl rfl ?_
          refine ov_putf (x := go) d_271_46 fl_Mo_116 (zb_90 I) (zs_90 I) rfl nk_0 rfl ?_
          have I34 := up_90_26 (x := go) I (by omega)
          refine ov_blk (ls2 := [(0, ov_r 90), (1, ov_i go), (2, ov_i wo), (3, ov_i cn), (4, ov_i sd)]) (st2 := [ov_i wo, ov_r 90]) (pc2 := 51) b_271_49_2 rfl rfl ?_
          refine ov_putf (x := wo) d_271_51 fl_Mo_349 (zb_90 I34) (zs_90 I34) rfl (nk_3 (by omega)) rfl ?_
          have I35 := up_90_27 (x := wo) I34 (by omega)
          refine ov_blk (ls2 := [(0, ov_r 90), (1, ov_i go), (2, ov_i wo), (3, ov_i cn), (4, ov_i sd)]) (st2 := [ov_r 90, ov_r 90]) (pc2 := 56) b_271_54_2 rfl rfl ?_
          refine ov_getf (v := ov_i (h 90 22)) d_271_56 fl_Mo_322 (zb_90 I35) (zs_90 I35) rfl ?_
          refine ov_putf (x := (h 90 22)) d_271_59 fl_Mo_353 (zb_90 I35) (zs_90 I35) rfl nk_0 rfl ?_
          have I37 := up_90_28 (x := (h 90 22)) I35 (by omega)
          refine ov_blk (ls2 := [(0, ov_r 90), (1, ov_i go), (2, ov_i wo), (3, ov_i cn), (4, ov_i sd)]) (st2 := [ov_i cn, ov_r 90]) (pc2 := 64) b_271_62_2 rfl rfl ?_
          refine ov_putf (x := cn) d_271_64 fl_Mo_119 (zb_90 I37) (zs_90 I37) rfl nk_0 rfl ?_
          have I38 := up_90_29 (x := cn) I37 (by omega)
          refine ov_blk (ls2 := [(0, ov_r 90), (1, ov_i go), (2, ov_i wo), (3, ov_i cn), (4, ov_i sd)]) (st2 := [ov_i sd, ov_r 90]) (pc2 := 70) b_271_67_2 rfl rfl ?_
          refine ov_putf (x := sd) d_271_70 fl_Mo_356 (zb_90 I38) (zs_90 I38) rfl nk_0 rfl ?_
          have I39 := up_90_30 (x := sd) I38 (by omega)
          refine ov_blk (ls2 := [(0, ov_r 90), (1, ov_i go), (2, ov_i wo), (3, ov_i cn), (4, ov_i sd)]) (st2 := [ov_r 90, ov_r 90]) (pc2 := 75) b_271_73_2 rfl rfl ?_
          refine ov_getf (v := ov_i (h 90 25)) d_271_75 fl_Mo_359 (zb_90 I39) (zs_90 I39) rfl ?_
          have g40 := rg_90_25 I
          refine ov_blk (ls2 := [(0, ov_r 90), (1, ov_i go), (2, ov_i wo), (3, ov_i cn), (4, ov_i sd)]) (st2 := [ov_i ((h 90 25) + 1), ov_r 90]) (pc2 := 80) b_271_78_2 rfl rfl ?_
          refine ov_putf (x := ((h 90 25) + 1)) d_271_80 fl_Mo_359 (zb_90 I39) (zs_90 I39) rfl nk_0 rfl ?_
          have I41 := up_90_25 (x := ((h 90 25) + 1)) I39 (by omega)
          exact ov_retv (st := []) d_271_83 rfl ⟨rfl, I41, ⟨rfl, rfl, rfl, rfl, rfl, rfl, rfl, (by show go = go ∧ wo = wo ∧ (h 90 22) = (h 90 22) ∧ cn = cn ∧ sd = sd ∧ ((((h 90 25) + 1) = (h 90 25) + 1) ∨ (((h 90 25) + 1) = (h 90 25) ∧ (h 90 26) = go ∧ (h 90 27) = wo ∧ (h 90 28) = (h 90 22) ∧ (h 90 29) = cn ∧ (h 90 30) = sd)); omega)⟩, rfl, rfl, rfl, rfl, rfl, rfl, rfl, rfl, rfl, rfl, rfl, rfl, rfl, rfl, rfl, rfl⟩
        · skip
          refine ov_blk (ls2 := [(0, ov_r 90), (1, ov_i go), (2, ov_i wo), (3, ov_i cn), (4, ov_i sd)]) (st2 := [ov_r 90]) (pc2 := 36) b_271_35_1 rfl rfl ?_
          refine ov_getf (v := ov_i (h 90 30)) d_271_36 fl_Mo_356 (zb_90 I) (zs_90 I) rfl ?_
          have g42 := rg_90_30 I
          refine ov_blk (ls2 := [(0, ov_r 90), (1, ov_i go), (2, ov_i wo), (3, ov_i cn), (4, ov_i sd)]) (st2 := [ov_i sd, ov_i (h 90 30)]) (pc2 := 41) b_271_39_1 rfl rfl ?_
          refine ov_iceq (tgt := 83) d_271_41 (by decide) (by omega) (by omega) (fun c43 => ?_) (fun c43 => ?_)
          · skip
            exact ov_retv (st := []) d_271_83 rfl ⟨rfl, I, ⟨rfl, rfl, rfl, rfl, rfl, rfl, rfl, (by show (h 90 26) = go ∧ (h 90 27) = wo ∧ (h 90 28) = (h 90 22) ∧ (h 90 29) = cn ∧ (h 90 30) = sd ∧ (((h 90 25) = (h 90 25) + 1) ∨ ((h 90 25) = (h 90 25) ∧ (h 90 26) = go ∧ (h 90 27) = wo ∧ (h 90 28) = (h 90 22) ∧ (h 90 29) = cn ∧ (h 90 30) = sd)); omega)⟩, rfl, rfl, rfl, rfl, rfl, rfl, rfl, rfl, rfl, rfl, rfl, rfl, rfl, rfl, rfl, rfl⟩
          · skip
            refine ov_blk (ls2 := [(0, ov_r 90), (1, ov_i go), (2, ov_i wo), (3, ov_i cn), (4, ov_i sd)]) (st2 := [ov_i go, ov_r 90]) (pc2 := 46) b_271_44_2 rfl rfl ?_
            refine ov_putf (x := go) d_271_46 fl_Mo_116 (zb_90 I) (zs_90 I) rfl nk_0 rfl ?_
            have I44 := up_90_26 (x := go) I (by omega)
            refine ov_blk (ls2 := [(0, ov_r 90), (1, ov_i go), (2, ov_i wo), (3, ov_i cn), (4, ov_i sd)]) (st2 := [ov_i wo, ov_r 90]) (pc2 := 51) b_271_49_2 rfl rfl ?_
            refine ov_putf (x := wo) d_271_51 fl_Mo_349 (zb_90 I44) (zs_90 I44) rfl (nk_3 (by omega)) rfl ?_
            have I45 := up_90_27 (x := wo) I44 (by omega)
            refine ov_blk (ls2 := [(0, ov_r 90), (1, ov_i go), (2, ov_i wo), (3, ov_i cn), (4, ov_i sd)]) (st2 := [ov_r 90, ov_r 90]) (pc2 := 56) b_271_54_2 rfl rfl ?_
            refine ov_getf (v := ov_i (h 90 22)) d_271_56 fl_Mo_322 (zb_90 I45) (zs_90 I45) rfl ?_
            refine ov_putf (x := (h 90 22)) d_271_59 fl_Mo_353 (zb_90 I45) (zs_90 I45) rfl nk_0 rfl ?_
            have I47 := up_90_28 (x := (h 90 22)) I45 (by omega)
            refine ov_blk (ls2 := [(0, ov_r 90), (1, ov_i go), (2, ov_i wo), (3, ov_i cn), (4, ov_i sd)]) (st2 := [ov_i cn, ov_r 90]) (pc2 := 64) b_271_62_2 rfl rfl ?_
            refine ov_putf (x := cn) d_271_64 fl_Mo_119 (zb_90 I47) (zs_90 I47) rfl nk_0 rfl ?_
            have I48 := up_90_29 (x := cn) I47 (by omega)
            refine ov_blk (ls2 := [(0, ov_r 90), (1, ov_i go), (2, ov_i wo), (3, ov_i cn), (4, ov_i sd)]) (st2 := [ov_i sd, ov_r 90]) (pc2 := 70) b_271_67_2 rfl rfl ?_
            refine ov_putf (x := sd) d_271_70 fl_Mo_356 (zb_90 I48) (zs_90 I48) rfl nk_0 rfl ?_
            have I49 := up_90_30 (x := sd) I48 (by omega)
            refine ov_blk (ls2 := [(0, ov_r 90), (1, ov_i go), (2, ov_i wo), (3, ov_i cn), (4, ov_i sd)]) (st2 := [ov_r 90, ov_r 90]) (pc2 := 75) b_271_73_2 rfl rfl ?_
            refine ov_getf (v := ov_i (h 90 25)) d_271_75 fl_Mo_359 (zb_90 I49) (zs_90 I49) rfl ?_
            have g50 := rg_90_25 I
            refine ov_blk (ls2 := [(0, ov_r 90), (1, ov_i go), (2, ov_i wo), (3, ov_i cn), (4, ov_i sd)]) (st2 := [ov_i ((h 90 25) + 1), ov_r 90]) (pc2 := 80) b_271_78_2 rfl rfl ?_
            refine ov_putf (x := ((h 90 25) + 1)) d_271_80 fl_Mo_359 (zb_90 I49) (zs_90 I49) rfl nk_0 rfl ?_
            have I51 := up_90_25 (x := ((h 90 25) + 1)) I49 (by omega)
            exact ov_retv (st := []) d_271_83 rfl ⟨rfl, I51, ⟨rfl, rfl, rfl, rfl, rfl, rfl, rfl, (by show go = go ∧ wo = wo ∧ (h 90 22) = (h 90 22) ∧ cn = cn ∧ sd = sd ∧ ((((h 90 25) + 1) = (h 90 25) + 1) ∨ (((h 90 25) + 1) = (h 90 25) ∧ (h 90 26) = go ∧ (h 90 27) = wo ∧ (h 90 28) = (h 90 22) ∧ (h 90 29) = cn ∧ (h 90 30) = sd)); omega)⟩, rfl, rfl, rfl, rfl, rfl, rfl, rfl, rfl, rfl, rfl, rfl, rfl, rfl, rfl, rfl, rfl⟩
abbrev P_Mo_isUnknown_90 (F : ov_H × ov_Z) (z : ov_Z) (h : ov_H) (x : Int) (y : Int) : Option ov_V → ov_Z → ov_H → Prop := fun r0 z' h' => ∃ r : Int, r0 = some (ov_i r) ∧ z = z' ∧ h = h' ∧ ((r = 0 ∨ r = 1) ∧ (r = 1 → ((h 96 (10 + 4 * (6 * y + x))) = 2 ∧ ¬ (h 103 (4 + 6 * y + x)) = 1 ∧ ¬ 6 * y + x = (h 90 29))) ∧ (r = 0 → ¬ ((h 96 (10 + 4 * (6 * y + x))) = 2 ∧ ¬ (h 103 (4 + 6 * y + x)) = 1 ∧ ¬ 6 * y + x = (h 90 29))))
set_option maxHeartbeats 4000000 in
theorem c_Mo_isUnknown_90 {u : ov_U} {F : ov_H × ov_Z} {z : ov_Z} {h : ov_H} (d : Nat) (hd : 2 ≤ d) (U : ov_cap u) (I : ov_N F z h) (x : Int) (y : Int) (g_x : ov_g x) (g_y : ov_g y) (p0 : 0 ≤ x ∧ x ≤ 5 ∧ 0 ≤ y ∧ y ≤ 8) : ov_T u d ov_m273 [ov_r 90, ov_i x, ov_i y] z h (P_Mo_isUnknown_90 F z h x y) := by
  refine ov_en rfl (Nat.le_of_ble_eq_true rfl) ?_
  show ov_R u d ov_m273 0 [(0, ov_r 90), (1, ov_i x), (2, ov_i y)] [] z h (P_Mo_isUnknown_90 F z h x y)
  have t0 := t96_0 I
  have t1 := t96_1 I
  refine ov_blk (ls2 := [(0, ov_r 90), (1, ov_i x), (2, ov_i y)]) (st2 := [ov_i y, ov_i x, ov_r 90]) (pc2 := 3) b_273_0_3 rfl rfl ?_
  refine ov_cV (as := [ov_i x, ov_i y]) (st := []) (d2 := d - 1) d_273_3 lk_Mo_282 rfl (Nat.le_of_ble_eq_true rfl) (c := 1) (zb_90 I) (zs_90 I) ⟨by decide, rfl⟩ (by omega) (c_Mo_kindAt_90 (d - 1) (by omega) U I x y (by omega) (by omega) (by omega)) ?_
  rintro _ _ _ ⟨v2, rfl, rfl, rfl, f1⟩
  show ov_R u d ov_m273 6 [(0, ov_r 90), (1, ov_i x), (2, ov_i y)] [ov_i v2] z h (P_Mo_isUnknown_90 F z h x y)
  have f3 : v2 = (h 96 (10 + 4 * (6 * y + x))) - 1 ∧ -1 ≤ v2 ∧ v2 ≤ 3 := f1
  clear f1
  refine ov_blk (ls2 := [(0, ov_r 90), (1, ov_i x), (2, ov_i y)]) (st2 := [ov_i 1, ov_i v2]) (pc2 := 7) b_273_6_1 rfl rfl ?_
  refine ov_icne (tgt := 36) d_273_7 (by decide) (by omega) (by omega) (fun c4 => ?_) (fun c4 => ?_)
  · skip
    refine ov_blk (ls2 := [(0, ov_r 90), (1, ov_i x), (2, ov_i y)]) (st2 := [ov_i 0]) (pc2 := 37) b_273_36_1 rfl rfl ?_
    exact ov_retz (st := []) d_273_37 rfl (by omega) ⟨_, rfl, rfl, rfl, (by show (0 = 0 ∨ 0 = 1) ∧ (0 = 1 → ((h 96 (10 + 4 * (6 * y + x))) = 2 ∧ ¬ (h 103 (4 + 6 * y + x)) = 1 ∧ ¬ 6 * y + x = (h 90 29))) ∧ (0 = 0 → ¬ ((h 96 (10 + 4 * (6 * y + x))) = 2 ∧ ¬ (h 103 (4 + 6 * y + x)) = 1 ∧ ¬ 6 * y + x = (h 90 29))); omega)⟩
  · skip
    refine ov_blk (ls2 := [(0, ov_r 90), (1, ov_i x), (2, ov_i y)]) (st2 := [ov_i y, ov_i x, ov_r 90]) (pc2 := 13) b_273_10_3 rfl rfl ?_
    refine ov_cV (as := [ov_i x, ov_i y]) (st := []) (d2 := d - 1) d_273_13 lk_Mo_302 rfl (Nat.le_of_ble_eq_true rfl) (c := 1) (zb_90 I) (zs_90 I) ⟨by decide, rfl⟩ (by omega) (c_Mo_isKnown_90 (d - 1) (by omega) U I x y (by omega) (by omega) (by omega)) ?_
    rintro _ _ _ ⟨v6, rfl, rfl, rfl, f5⟩
    show ov_R u d ov_m273 16 [(0, ov_r 90), (1, ov_i x), (2, ov_i y)] [ov_i v6] z h (P_Mo_isUnknown_90 F z h x y)
    have f7 : (v6 = 0 ∨ v6 = 1) ∧ (v6 = 1 → ((h 96 (10 + 4 * (6 * y + x))) = 2 ∧ (h 103 (4 + 6 * y + x)) = 1)) ∧ (v6 = 0 → ¬ ((h 96 (10 + 4 * (6 * y + x))) = 2 ∧ (h 103 (4 + 6 * y + x)) = 1)) := f5
    clear f5
    refine ov_ifne (tgt := 36) d_273_16 (by decide) (by omega) (fun c8 => ?_) (fun c8 => ?_)
    · skip
      have f7_ : v6 = 1 := by omega
      have f9 : ((h 96 (10 + 4 * (6 * y + x))) = 2 ∧ (h 103 (4 + 6 * y + x)) = 1) := f7.2.1 (by omega)
      clear f7
      refine ov_blk (ls2 := [(0, ov_r 90), (1, ov_i x), (2, ov_i y)]) (st2 := [ov_i 0]) (pc2 := 37) b_273_36_1 rfl rfl ?_
      exact ov_retz (st := []) d_273_37 rfl (by omega) ⟨_, rfl, rfl, rfl, (by show (0 = 0 ∨ 0 = 1) ∧ (0 = 1 → ((h 96 (10 + 4 * (6 * y + x))) = 2 ∧ ¬ (h 103 (4 + 6 * y + x)) = 1 ∧ ¬ 6 * y + x = (h 90 29))) ∧ (0 = 0 → ¬ ((h 96 (10 + 4 * (6 * y + x))) = 2 ∧ ¬ (h 103 (4 + 6 * y + x)) = 1 ∧ ¬ 6 * y + x = (h 90 29))); omega)⟩
    · skip
      have f7_ : v6 = 0 := by omega
      have f10 : ¬ ((h 96 (10 + 4 * (6 * y + x))) = 2 ∧ (h 103 (4 + 6 * y + x)) = 1) := f7.2.2 (by omega)
      clear f7
      refine ov_blk (ls2 := [(0, ov_r 90), (1, ov_i x), (2, ov_i y)]) (st2 := [ov_r 90, ov_i ((6 * y) + x)]) (pc2 := 26) b_273_19_6 rfl rfl ?_
      refine ov_getf (v := ov_i (h 90 29)) d_273_26 fl_Mo_119 (zb_90 I) (zs_90 I) rfl ?_
      have g11 := rg_90_29 I
      refine ov_iceq (tgt := 36) d_273_29 (by decide) (by omega) (by omega) (fun c12 => ?_) (fun c12 => ?_)
      · skip
        refine ov_blk (ls2 := [(0, ov_r 90), (1, ov_i x), (2, ov_i y)]) (st2 := [ov_i 0]) (pc2 := 37) b_273_36_1 rfl rfl ?_
        exact ov_retz (st := []) d_273_37 rfl (by omega) ⟨_, rfl, rfl, rfl, (by show (0 = 0 ∨ 0 = 1) ∧ (0 = 1 → ((h 96 (10 + 4 * (6 * y + x))) = 2 ∧ ¬ (h 103 (4 + 6 * y + x)) = 1 ∧ ¬ 6 * y + x = (h 90 29))) ∧ (0 = 0 → ¬ ((h 96 (10 + 4 * (6 * y + x))) = 2 ∧ ¬ (h 103 (4 + 6 * y + x)) = 1 ∧ ¬ 6 * y + x = (h 90 29))); omega)⟩
      · skip
        refine ov_blk (ls2 := [(0, ov_r 90), (1, ov_i x), (2, ov_i y)]) (st2 := [ov_i 1]) (pc2 := 33) b_273_32_1 rfl rfl ?_
        refine ov_goto (tgt := 37) d_273_33 (by decide) ?_
        exact ov_retz (st := []) d_273_37 rfl (by omega) ⟨_, rfl, rfl, rfl, (by show (1 = 0 ∨ 1 = 1) ∧ (1 = 1 → ((h 96 (10 + 4 * (6 * y + x))) = 2 ∧ ¬ (h 103 (4 + 6 * y + x)) = 1 ∧ ¬ 6 * y + x = (h 90 29))) ∧ (1 = 0 → ¬ ((h 96 (10 + 4 * (6 * y + x))) = 2 ∧ ¬ (h 103 (4 + 6 * y + x)) = 1 ∧ ¬ 6 * y + x = (h 90 29))); omega)⟩
abbrev P_Mo_isGoer_90 (F : ov_H × ov_Z) (z : ov_Z) (h : ov_H) (go : Int) : Option ov_V → ov_Z → ov_H → Prop := fun r0 z' h' => ∃ r : Int, r0 = some (ov_i r) ∧ z = z' ∧ h = h' ∧ ((r = 0 ∨ r = 1) ∧ (r = 1 → 0 ≤ go ∧ go ≤ 3 + (h 96 8)))
set_option maxHeartbeats 4000000 in
theorem c_Mo_isGoer_90 {u : ov_U} {F : ov_H × ov_Z} {z : ov_Z} {h : ov_H} (d : Nat) (hd : 1 ≤ d) (U : ov_cap u) (I : ov_N F z h) (go : Int) (g_go : ov_g go) : ov_T u d ov_m269 [ov_r 90, ov_i go] z h (P_Mo_isGoer_90 F z h go) := by
  refine ov_en rfl (Nat.le_of_ble_eq_true rfl) ?_
  show ov_R u d ov_m269 0 [(0, ov_r 90), (1, ov_i go)] [] z h (P_Mo_isGoer_90 F z h go)
  have t0 := t96_0 I
  have t1 := t96_1 I
  refine ov_blk (ls2 := [(0, ov_r 90), (1, ov_i go)]) (st2 := [ov_r 90, ov_i 3, ov_i 0, ov_i go]) (pc2 := 4) b_269_0_4 rfl rfl ?_
  refine ov_getf (v := ov_r 96) d_269_4 fl_Mo_81 (zb_90 I) (zs_90 I) (congrArg ov_r (rg_90_10 I)) ?_
  refine ov_blk (ls2 := [(0, ov_r 90), (1, ov_i go)]) (st2 := [ov_i 8, ov_r 96, ov_i 3, ov_i 0, ov_i go]) (pc2 := 9) b_269_7_1 rfl rfl ?_
  refine ov_iald d_269_9 (zb_96 I) (zs_96 I) (by omega) ?_
  have g1 := t96_8 I
  refine ov_blk (ls2 := [(0, ov_r 90), (1, ov_i go)]) (st2 := [ov_i (3 + (h 96 8)), ov_i 0, ov_i go]) (pc2 := 11) b_269_10_1 rfl rfl ?_
  refine ov_cS (as := [ov_i go, ov_i 0, ov_i (3 + (h 96 8))]) (st := []) (d2 := d - 1) d_269_11 lk_Mo_299 rfl (Nat.le_of_ble_eq_true rfl) (by omega) (c_Mo_within (d - 1) (by omega) U I go 0 (3 + (h 96 8)) (by omega) (by omega) (by omega)) ?_
  rintro _ _ _ ⟨v3, rfl, rfl, rfl, f2⟩
  show ov_R u d ov_m269 14 [(0, ov_r 90), (1, ov_i go)] [ov_i v3] z h (P_Mo_isGoer_90 F z h go)
  have f4 : (v3 = 0 ∨ v3 = 1) ∧ (v3 = 1 → (0 : Int) ≤ go ∧ go ≤ (3 + (h 96 8))) ∧ (v3 = 0 → go < (0 : Int) ∨ (3 + (h 96 8)) < go) := f2
  clear f2
  exact ov_retz (st := []) d_269_14 rfl (by omega) ⟨_, rfl, rfl, rfl, (by show (v3 = 0 ∨ v3 = 1) ∧ (v3 = 1 → 0 ≤ go ∧ go ≤ 3 + (h 96 8)); omega)⟩
abbrev P_Mo_isPlace_90 (F : ov_H × ov_Z) (z : ov_Z) (h : ov_H) (x : Int) (y : Int) (s : Int) : Option ov_V → ov_Z → ov_H → Prop := fun r0 z' h' => ∃ r : Int, r0 = some (ov_i r) ∧ z = z' ∧ h = h' ∧ ((r = 0 ∨ r = 1) ∧ (r = 1 → 0 ≤ x ∧ x ≤ 5 ∧ 0 ≤ y ∧ y ≤ 8 ∧ x < (h 96 0) ∧ y < (h 96 1) ∧ 0 ≤ s ∧ s ≤ 1000000))
set_option maxHeartbeats 4000000 in
theorem c_Mo_isPlace_90 {u : ov_U} {F : ov_H × ov_Z} {z : ov_Z} {h : ov_H} (d : Nat) (hd : 2 ≤ d) (U : ov_cap u) (I : ov_N F z h) (x : Int) (y : Int) (s : Int) (g_x : ov_g x) (g_y : ov_g y) (g_s : ov_g s) : ov_T u d ov_m270 [ov_r 90, ov_i x, ov_i y, ov_i s] z h (P_Mo_isPlace_90 F z h x y s) := by
  refine ov_en rfl (Nat.le_of_ble_eq_true rfl) ?_
  show ov_R u d ov_m270 0 [(0, ov_r 90), (1, ov_i x), (2, ov_i y), (3, ov_i s)] [] z h (P_Mo_isPlace_90 F z h x y s)
  have t0 := t96_0 I
  have t1 := t96_1 I
  refine ov_blk (ls2 := [(0, ov_r 90), (1, ov_i x), (2, ov_i y), (3, ov_i s)]) (st2 := [ov_i y, ov_i x, ov_r 90]) (pc2 := 3) b_270_0_3 rfl rfl ?_
  refine ov_cV (as := [ov_i x, ov_i y]) (st := []) (d2 := d - 1) d_270_3 lk_Mo_296 rfl (Nat.le_of_ble_eq_true rfl) (c := 1) (zb_90 I) (zs_90 I) ⟨by decide, rfl⟩ (by omega) (c_Mo_isCorner_90 (d - 1) (by omega) U I x y (by omega) (by omega)) ?_
  rintro _ _ _ ⟨v2, rfl, rfl, rfl, f1⟩
  show ov_R u d ov_m270 6 [(0, ov_r 90), (1, ov_i x), (2, ov_i y), (3, ov_i s)] [ov_i v2] z h (P_Mo_isPlace_90 F z h x y s)
  have f3 : (v2 = 0 ∨ v2 = 1) ∧ (v2 = 1 → 0 ≤ x ∧ x ≤ 5 ∧ 0 ≤ y ∧ y ≤ 8 ∧ x < (h 96 0) ∧ y < (h 96 1)) := f1
  clear f1
  refine ov_ifeq (tgt := 21) d_270_6 (by decide) (by omega) (fun c4 => ?_) (fun c4 => ?_)
  · skip
    have f3_ : v2 = 0 := by omega
    clear f3
    refine ov_blk (ls2 := [(0, ov_r 90), (1, ov_i x), (2, ov_i y), (3, ov_i s)]) (st2 := [ov_i 0]) (pc2 := 22) b_270_21_1 rfl rfl ?_
    exact ov_retz (st := []) d_270_22 rfl (by omega) ⟨_, rfl, rfl, rfl, (by show (0 = 0 ∨ 0 = 1) ∧ (0 = 1 → 0 ≤ x ∧ x ≤ 5 ∧ 0 ≤ y ∧ y ≤ 8 ∧ x < (h 96 0) ∧ y < (h 96 1) ∧ 0 ≤ s ∧ s ≤ 1000000); omega)⟩
  · skip
    have f3_ : v2 = 1 := by omega
    have f5 : 0 ≤ x ∧ x ≤ 5 ∧ 0 ≤ y ∧ y ≤ 8 ∧ x < (h 96 0) ∧ y < (h 96 1) := f3.2 (by omega)
    clear f3
    refine ov_blk (ls2 := [(0, ov_r 90), (1, ov_i x), (2, ov_i y), (3, ov_i s)]) (st2 := [ov_i s, ov_r 90]) (pc2 := 11) b_270_9_2 rfl rfl ?_
    refine ov_cV (as := [ov_i s]) (st := []) (d2 := d - 1) d_270_11 lk_Mo_306 rfl (Nat.le_of_ble_eq_true rfl) (c := 1) (zb_90 I) (zs_90 I) ⟨by decide, rfl⟩ (by omega) (c_Mo_isSecond_90 (d - 1) (by omega) U I s (by omega)) ?_
    rintro _ _ _ ⟨v7, rfl, rfl, rfl, f6⟩
    show ov_R u d ov_m270 14 [(0, ov_r 90), (1, ov_i x), (2, ov_i y), (3, ov_i s)] [ov_i v7] z h (P_Mo_isPlace_90 F z h x y s)
    have f8 : (v7 = 0 ∨ v7 = 1) ∧ (v7 = 1 → 0 ≤ s ∧ s ≤ 1000000) := f6
    clear f6
    refine ov_ifeq (tgt := 21) d_270_14 (by decide) (by omega) (fun c9 => ?_) (fun c9 => ?_)
    · skip
      have f8_ : v7 = 0 := by omega
      clear f8
      refine ov_blk (ls2 := [(0, ov_r 90), (1, ov_i x), (2, ov_i y), (3, ov_i s)]) (st2 := [ov_i 0]) (pc2 := 22) b_270_21_1 rfl rfl ?_
      exact ov_retz (st := []) d_270_22 rfl (by omega) ⟨_, rfl, rfl, rfl, (by show (0 = 0 ∨ 0 = 1) ∧ (0 = 1 → 0 ≤ x ∧ x ≤ 5 ∧ 0 ≤ y ∧ y ≤ 8 ∧ x < (h 96 0) ∧ y < (h 96 1) ∧ 0 ≤ s ∧ s ≤ 1000000); omega)⟩
    · skip
      have f8_ : v7 = 1 := by omega
      have f10 : 0 ≤ s ∧ s ≤ 1000000 := f8.2 (by omega)
      clear f8
      refine ov_blk (ls2 := [(0, ov_r 90), (1, ov_i x), (2, ov_i y), (3, ov_i s)]) (st2 := [ov_i 1]) (pc2 := 18) b_270_17_1 rfl rfl ?_
      refine ov_goto (tgt := 22) d_270_18 (by decide) ?_
      exact ov_retz (st := []) d_270_22 rfl (by omega) ⟨_, rfl, rfl, rfl, (by show (1 = 0 ∨ 1 = 1) ∧ (1 = 1 → 0 ≤ x ∧ x ≤ 5 ∧ 0 ≤ y ∧ y ≤ 8 ∧ x < (h 96 0) ∧ y < (h 96 1) ∧ 0 ≤ s ∧ s ≤ 1000000); omega)⟩
abbrev P_Mo_fastest_90 (F : ov_H × ov_Z) (z : ov_Z) (h : ov_H) : Option ov_V → ov_Z → ov_H → Prop := fun r0 z' h' => ∃ r : Int, r0 = some (ov_i r) ∧ z = z' ∧ h = h' ∧ (0 ≤ r ∧ r ≤ 30)
set_option maxHeartbeats 4000000 in
theorem c_Mo_fastest_90 {u : ov_U} {F : ov_H × ov_Z} {z : ov_Z} {h : ov_H} (d : Nat) (hd : 1 ≤ d) (U : ov_cap u) (I : ov_N F z h) : ov_T u d ov_m290 [ov_r 90] z h (P_Mo_fastest_90 F z h) := by
  refine ov_en rfl (Nat.le_of_ble_eq_true rfl) ?_
  show ov_R u d ov_m290 0 [(0, ov_r 90)] [] z h (P_Mo_fastest_90 F z h)
  have t0 := t96_0 I
  have t1 := t96_1 I
  refine ov_blk (ls2 := [(0, ov_r 90)]) (st2 := [ov_r 90]) (pc2 := 1) b_290_0_1 rfl rfl ?_
  refine ov_cV (as := []) (st := []) (d2 := d - 1) d_290_1 lk_Mo_332 rfl (Nat.le_of_ble_eq_true rfl) (c := 1) (zb_90 I) (zs_90 I) ⟨by decide, rfl⟩ (by omega) (c_Mo_runTime_90 (d - 1) (by omega) U I) ?_
  rintro _ _ _ ⟨v2, rfl, rfl, rfl, f1⟩
  show ov_R u d ov_m290 4 [(0, ov_r 90)] [ov_i v2] z h (P_Mo_fastest_90 F z h)
  have f3 : 0 ≤ v2 ∧ v2 ≤ 30 := f1
  clear f1
  refine ov_blk (ls2 := [(0, ov_r 90)]) (st2 := [ov_r 90, ov_i v2]) (pc2 := 5) b_290_4_1 rfl rfl ?_
  refine ov_cV (as := []) (st := [ov_i v2]) (d2 := d - 1) d_290_5 lk_Mo_411 rfl (Nat.le_of_ble_eq_true rfl) (c := 1) (zb_90 I) (zs_90 I) ⟨by decide, rfl⟩ (by omega) (c_Mo_slowTime_90 (d - 1) (by omega) U I) ?_
  rintro _ _ _ ⟨v5, rfl, rfl, rfl, f4⟩
  show ov_R u d ov_m290 8 [(0, ov_r 90)] [ov_i v5, ov_i v2] z h (P_Mo_fastest_90 F z h)
  have f6 : 0 ≤ v5 ∧ v5 ≤ 30 := f4
  clear f4
  refine ov_icle (tgt := 20) d_290_8 (by decide) (by omega) (by omega) (fun c7 => ?_) (fun c7 => ?_)
  · skip
    refine ov_blk (ls2 := [(0, ov_r 90)]) (st2 := [ov_r 90]) (pc2 := 21) b_290_20_1 rfl rfl ?_
    refine ov_cV (as := []) (st := []) (d2 := d - 1) d_290_21 lk_Mo_332 rfl (Nat.le_of_ble_eq_true rfl) (c := 1) (zb_90 I) (zs_90 I) ⟨by decide, rfl⟩ (by omega) (c_Mo_runTime_90 (d - 1) (by omega) U I) ?_
    rintro _ _ _ ⟨v9, rfl, rfl, rfl, f8⟩
    show ov_R u d ov_m290 24 [(0, ov_r 90)] [ov_i v9] z h (P_Mo_fastest_90 F z h)
    have f10 : 0 ≤ v9 ∧ v9 ≤ 30 := f8
    clear f8
    exact ov_reti (st := []) d_290_24 rfl ⟨_, rfl, rfl, rfl, (by show 0 ≤ v9 ∧ v9 ≤ 30; omega)⟩
  · skip
    refine ov_blk (ls2 := [(0, ov_r 90)]) (st2 := [ov_r 90]) (pc2 := 12) b_290_11_1 rfl rfl ?_
    refine ov_getf (v := ov_r 96) d_290_12 fl_Mo_81 (zb_90 I) (zs_90 I) (congrArg ov_r (rg_90_10 I)) ?_
    refine ov_blk (ls2 := [(0, ov_r 90)]) (st2 := [ov_i 2, ov_r 96]) (pc2 := 16) b_290_15_1 rfl rfl ?_
    refine ov_iald d_290_16 (zb_96 I) (zs_96 I) (by omega) ?_
    have g11 := t96_2 I
    refine ov_goto (tgt := 24) d_290_17 (by decide) ?_
    exact ov_reti (st := []) d_290_24 rfl ⟨_, rfl, rfl, rfl, (by show 0 ≤ (h 96 2) ∧ (h 96 2) ≤ 30; omega)⟩
abbrev P_Mo_slowest_90 (F : ov_H × ov_Z) (z : ov_Z) (h : ov_H) : Option ov_V → ov_Z → ov_H → Prop := fun r0 z' h' => ∃ r : Int, r0 = some (ov_i r) ∧ z = z' ∧ h = h' ∧ (0 ≤ r ∧ r ≤ 30)
set_option maxHeartbeats 4000000 in
theorem c_Mo_slowest_90 {u : ov_U} {F : ov_H × ov_Z} {z : ov_Z} {h : ov_H} (d : Nat) (hd : 1 ≤ d) (U : ov_cap u) (I : ov_N F z h) : ov_T u d ov_m292 [ov_r 90] z h (P_Mo_slowest_90 F z h) := by
  refine ov_en rfl (Nat.le_of_ble_eq_true rfl) ?_
  show ov_R u d ov_m292 0 [(0, ov_r 90)] [] z h (P_Mo_slowest_90 F z h)
  have t0 := t96_0 I
  have t1 := t96_1 I
  refine ov_blk (ls2 := [(0, ov_r 90)]) (st2 := [ov_r 90]) (pc2 := 1) b_292_0_1 rfl rfl ?_
  refine ov_cV (as := []) (st := []) (d2 := d - 1) d_292_1 lk_Mo_332 rfl (Nat.le_of_ble_eq_true rfl) (c := 1) (zb_90 I) (zs_90 I) ⟨by decide, rfl⟩ (by omega) (c_Mo_runTime_90 (d - 1) (by omega) U I) ?_
  rintro _ _ _ ⟨v2, rfl, rfl, rfl, f1⟩
  show ov_R u d ov_m292 4 [(0, ov_r 90)] [ov_i v2] z h (P_Mo_slowest_90 F z h)
  have f3 : 0 ≤ v2 ∧ v2 ≤ 30 := f1
  clear f1
  refine ov_blk (ls2 := [(0, ov_r 90)]) (st2 := [ov_r 90, ov_i v2]) (pc2 := 5) b_292_4_1 rfl rfl ?_
  refine ov_cV (as := []) (st := [ov_i v2]) (d2 := d - 1) d_292_5 lk_Mo_411 rfl (Nat.le_of_ble_eq_true rfl) (c := 1) (zb_90 I) (zs_90 I) ⟨by decide, rfl⟩ (by omega) (c_Mo_slowTime_90 (d - 1) (by omega) U I) ?_
  rintro _ _ _ ⟨v5, rfl, rfl, rfl, f4⟩
  show ov_R u d ov_m292 8 [(0, ov_r 90)] [ov_i v5, ov_i v2] z h (P_Mo_slowest_90 F z h)
  have f6 : 0 ≤ v5 ∧ v5 ≤ 30 := f4
  clear f4
  refine ov_icle (tgt := 20) d_292_8 (by decide) (by omega) (by omega) (fun c7 => ?_) (fun c7 => ?_)
  · skip
    refine ov_blk (ls2 := [(0, ov_r 90)]) (st2 := [ov_r 90]) (pc2 := 21) b_292_20_1 rfl rfl ?_
    refine ov_cV (as := []) (st := []) (d2 := d - 1) d_292_21 lk_Mo_411 rfl (Nat.le_of_ble_eq_true rfl) (c := 1) (zb_90 I) (zs_90 I) ⟨by decide, rfl⟩ (by omega) (c_Mo_slowTime_90 (d - 1) (by omega) U I) ?_
    rintro _ _ _ ⟨v9, rfl, rfl, rfl, f8⟩
    show ov_R u d ov_m292 24 [(0, ov_r 90)] [ov_i v9] z h (P_Mo_slowest_90 F z h)
    have f10 : 0 ≤ v9 ∧ v9 ≤ 30 := f8
    clear f8
    exact ov_reti (st := []) d_292_24 rfl ⟨_, rfl, rfl, rfl, (by show 0 ≤ v9 ∧ v9 ≤ 30; omega)⟩
  · skip
    refine ov_blk (ls2 := [(0, ov_r 90)]) (st2 := [ov_r 90]) (pc2 := 12) b_292_11_1 rfl rfl ?_
    refine ov_getf (v := ov_r 96) d_292_12 fl_Mo_81 (zb_90 I) (zs_90 I) (congrArg ov_r (rg_90_10 I)) ?_
    refine ov_blk (ls2 := [(0, ov_r 90)]) (st2 := [ov_i 2, ov_r 96]) (pc2 := 16) b_292_15_1 rfl rfl ?_
    refine ov_iald d_292_16 (zb_96 I) (zs_96 I) (by omega) ?_
    have g11 := t96_2 I
    refine ov_goto (tgt := 24) d_292_17 (by decide) ?_
    exact ov_reti (st := []) d_292_24 rfl ⟨_, rfl, rfl, rfl, (by show 0 ≤ (h 96 2) ∧ (h 96 2) ≤ 30; omega)⟩
abbrev P_Mo_xAt_90 (F : ov_H × ov_Z) (z : ov_Z) (h : ov_H) (l : Int) : Option ov_V → ov_Z → ov_H → Prop := fun r0 z' h' => ∃ r : Int, r0 = some (ov_i r) ∧ z = z' ∧ h = h' ∧ (r = ov_sx (h 100) (Int.toNat l) ∧ 0 ≤ r ∧ r ≤ l)
set_option maxHeartbeats 4000000 in
theorem c_Mo_xAt_90 {u : ov_U} {F : ov_H × ov_Z} {z : ov_Z} {h : ov_H} (d : Nat) (hd : 0 ≤ d) (U : ov_cap u) (I : ov_N F z h) (l : Int) (g_l : ov_g l) (p0 : 0 ≤ l ∧ l ≤ 13) : ov_T u d ov_m294 [ov_r 90, ov_i l] z h (P_Mo_xAt_90 F z h l) := by
  refine ov_en rfl (Nat.le_of_ble_eq_true rfl) ?_
  show ov_R u d ov_m294 0 [(0, ov_r 90), (1, ov_i l)] [] z h (P_Mo_xAt_90 F z h l)
  have t0 := t96_0 I
  have t1 := t96_1 I
  have z0 : ov_sx (h 100) (Int.toNat 0) = 0 := rfl
  refine ov_blk (ls2 := [(0, ov_r 90), (1, ov_i l), (2, ov_i 0), (3, ov_i 0)]) (st2 := []) (pc2 := 4) b_294_0_4 rfl rfl ?_
  have L4 : ∀ (n1 : Nat) (x2 : Int) (x3 : Int) (q3 : 0 ≤ x3 ∧ x3 ≤ l ∧ x2 = ov_sx (h 100) (Int.toNat x3) ∧ 0 ≤ x2 ∧ x2 ≤ x3), 13 - x3 < (n1 : Int) → ov_R u d ov_m294 4 [(0, ov_r 90), (1, ov_i l), (2, ov_i x2), (3, ov_i x3)] [] z h (P_Mo_xAt_90 F z h l) := by
    intro n1
    induction n1 with
    | zero =>
      intro x2 x3 q3 hn5
      exact absurd hn5 (by omega)
    | succ n1 ih2 =>
      intro x2 x3 q3 hn5
      refine ov_blk (ls2 := [(0, ov_r 90), (1, ov_i l), (2, ov_i x2), (3, ov_i x3)]) (st2 := [ov_i l, ov_i x3]) (pc2 := 6) b_294_4_2 rfl rfl ?_
      refine ov_icge (tgt := 30) d_294_6 (by decide) (by omega) (by omega) (fun c6 => ?_) (fun c6 => ?_)
      · skip
        refine ov_blk (ls2 := [(0, ov_r 90), (1, ov_i l), (2, ov_i x2), (3, ov_i x3)]) (st2 := [ov_i x2]) (pc2 := 31) b_294_30_1 rfl rfl ?_
        have we : ov_sx (h 100) (Int.toNat x3) = ov_sx (h 100) (Int.toNat l) := by congr 2; omega
        exact ov_reti (st := []) d_294_31 rfl ⟨_, rfl, rfl, rfl, (by show x2 = ov_sx (h 100) (Int.toNat l) ∧ 0 ≤ x2 ∧ x2 ≤ l; omega)⟩
      · skip
        have ws := ov_sx_s (h 100) (k := x3) (by omega)
        have ww := s100_w I (j := x3) (by omega)
        refine ov_blk (ls2 := [(0, ov_r 90), (1, ov_i l), (2, ov_i x2), (3, ov_i x3)]) (st2 := [ov_r 90, ov_i 1, ov_i x2]) (pc2 := 12) b_294_9_3 rfl rfl ?_
        refine ov_getf (v := ov_r 100) d_294_12 fl_Mo_93 (zb_90 I) (zs_90 I) (congrArg ov_r (rg_90_16 I)) ?_
        refine ov_blk (ls2 := [(0, ov_r 90), (1, ov_i l), (2, ov_i x2), (3, ov_i x3)]) (st2 := [ov_i (1 + (2 * x3)), ov_r 100, ov_i 1, ov_i x2]) (pc2 := 20) b_294_15_5 rfl rfl ?_
        refine ov_iald d_294_20 (zb_100 I) (zs_100 I) (by omega) ?_
        have g7 := s100_g I (1 + (2 * x3))
        refine ov_blk (ls2 := [(0, ov_r 90), (1, ov_i l), (2, ov_i (x2 + (1 - (h 100 (1 + (2 * x3)))))), (3, ov_i (x3 + 1))]) (st2 := []) (pc2 := 27) b_294_21_4 rfl rfl ?_
        refine ov_goto (tgt := 4) d_294_27 (by decide) ?_
        exact ih2 (x2 + (1 - (h 100 (1 + (2 * x3))))) (x3 + 1) (by show 0 ≤ (x3 + 1) ∧ (x3 + 1) ≤ l ∧ (x2 + (1 - (h 100 (1 + (2 * x3))))) = ov_sx (h 100) (Int.toNat (x3 + 1)) ∧ 0 ≤ (x2 + (1 - (h 100 (1 + (2 * x3))))) ∧ (x2 + (1 - (h 100 (1 + (2 * x3))))) ≤ (x3 + 1); omega) (by omega)
  exact L4 14 0 0 (by show 0 ≤ 0 ∧ 0 ≤ l ∧ 0 = ov_sx (h 100) (Int.toNat 0) ∧ 0 ≤ 0 ∧ 0 ≤ 0; omega) (by omega)
abbrev P_Mo_draw_90 (F : ov_H × ov_Z) (z : ov_Z) (h : ov_H) (m : Int) : Option ov_V → ov_Z → ov_H → Prop := fun r0 z' h' => ∃ r : Int, r0 = some (ov_i r) ∧ ov_N F z' h' ∧ ((h' 90 2) = (h 90 2) ∧ (h' 90 7) = (h 90 7) ∧ (h' 90 8) = (h 90 8) ∧ (h' 90 13) = (h 90 13) ∧ (h' 90 20) = (h 90 20) ∧ (h' 90 22) = (h 90 22) ∧ (h' 90 25) = (h 90 25) ∧ (h' 90 26) = (h 90 26) ∧ (h' 90 28) = (h 90 28) ∧ (h' 90 29) = (h 90 29) ∧ (h' 90 30) = (h 90 30) ∧ (h' 90 34) = (h 90 34) ∧ 0 ≤ r ∧ r < m) ∧ h' 91 = h 91 ∧ h' 92 = h 92 ∧ h' 93 = h 93 ∧ h' 94 = h 94 ∧ h' 95 = h 95 ∧ h' 96 = h 96 ∧ h' 97 = h 97 ∧ h' 98 = h 98 ∧ h' 99 = h 99 ∧ h' 100 = h 100 ∧ h' 103 = h 103 ∧ h' 104 = h 104 ∧ h' 105 = h 105 ∧ h' 106 = h 106 ∧ h' 109 = h 109 ∧ h' 114 = h 114
set_option maxHeartbeats 4000000 in
theorem c_Mo_draw_90 {u : ov_U} {F : ov_H × ov_Z} {z : ov_Z} {h : ov_H} (d : Nat) (hd : 0 ≤ d) (U : ov_cap u) (I : ov_N F z h) (m : Int) (g_m : ov_g m) (p0 : 1 ≤ m ∧ m ≤ 60) : ov_T u d ov_m309 [ov_r 90, ov_i m] z h (P_Mo_draw_90 F z h m) := by
  refine ov_en rfl (Nat.le_of_ble_eq_true rfl) ?_
  show ov_R u d ov_m309 0 [(0, ov_r 90), (1, ov_i m)] [] z h (P_Mo_draw_90 F z h m)
  have t0 := t96_0 I
  have t1 := t96_1 I
  refine ov_blk (ls2 := [(0, ov_r 90), (1, ov_i m)]) (st2 := [ov_r 90, ov_r 90]) (pc2 := 2) b_309_0_2 rfl rfl ?_
  refine ov_getf (v := ov_l (h 90 46)) d_309_2 fl_Mo_471 (zb_90 I) (zs_90 I) rfl ?_
  have g1 := rg_90_46 I
  refine ov_ldc2 (n := 1103515245) d_309_5 kc_Mo_474 ?_
  refine ov_blk (ls2 := [(0, ov_r 90), (1, ov_i m)]) (st2 := [ov_l ((h 90 46) * 1103515245), ov_r 90]) (pc2 := 9) b_309_8_1 rfl rfl ?_
  refine ov_ldc2 (n := 12345) d_309_9 kc_Mo_476 ?_
  refine ov_blk (ls2 := [(0, ov_r 90), (1, ov_i m)]) (st2 := [ov_l (((h 90 46) * 1103515245) + 12345), ov_r 90]) (pc2 := 13) b_309_12_1 rfl rfl ?_
  refine ov_ldc2 (n := 2147483648) d_309_13 kc_Mo_478 ?_
  refine ov_lrem d_309_16 (by omega) (by omega) (by omega) ?_
  have g2 := ov_tm (a := (((h 90 46) * 1103515245) + 12345)) (b := 2147483648) (by omega)
  refine ov_putf (x := (Int.tmod (((h 90 46) * 1103515245) + 12345) 2147483648)) d_309_17 fl_Mo_471 (zb_90 I) (zs_90 I) rfl nk_1 rfl ?_
  have I3 := up_90_46 (x := (Int.tmod (((h 90 46) * 1103515245) + 12345) 2147483648)) I (by omega)
  refine ov_blk (ls2 := [(0, ov_r 90), (1, ov_i m)]) (st2 := [ov_r 90]) (pc2 := 21) b_309_20_1 rfl rfl ?_
  refine ov_getf (v := ov_l (Int.tmod (((h 90 46) * 1103515245) + 12345) 2147483648)) d_309_21 fl_Mo_471 (zb_90 I3) (zs_90 I3) rfl ?_
  refine ov_ldc2 (n := 65536) d_309_24 kc_Mo_480 ?_
  refine ov_ldiv d_309_27 (by omega) (by omega) (by omega) ?_
  have g4 := ov_td (a := (Int.tmod (((h 90 46) * 1103515245) + 12345) 2147483648)) (b := 65536) (by omega)
  refine ov_blk (ls2 := [(0, ov_r 90), (1, ov_i m)]) (st2 := [ov_l (ov_w m), ov_l (Int.tdiv (Int.tmod (((h 90 46) * 1103515245) + 12345) 2147483648) 65536)]) (pc2 := 30) b_309_28_2 rfl rfl ?_
  have g5 := ov_wg m
  have g6 := ov_wq m
  have gm := ov_tmv (x := (Int.tdiv (Int.tmod (((h 90 46) * 1103515245) + 12345) 2147483648) 65536)) (y := (ov_w m)) (by omega) (by omega)
  refine ov_lrem d_309_30 (by omega) (by omega) (by omega) ?_
  have g7 := ov_tm (a := (Int.tdiv (Int.tmod (((h 90 46) * 1103515245) + 12345) 2147483648) 65536)) (b := (ov_w m)) (by omega)
  refine ov_blk (ls2 := [(0, ov_r 90), (1, ov_i m)]) (st2 := [ov_i (Int.tmod (Int.tdiv (Int.tmod (((h 90 46) * 1103515245) + 12345) 2147483648) 65536) (ov_w m))]) (pc2 := 32) b_309_31_1 rfl rfl ?_
  exact ov_reti (st := []) d_309_32 rfl ⟨_, rfl, I3, ⟨rfl, rfl, rfl, rfl, rfl, rfl, rfl, rfl, rfl, rfl, rfl, rfl, (by show 0 ≤ (Int.tmod (Int.tdiv (Int.tmod (((h 90 46) * 1103515245) + 12345) 2147483648) 65536) (ov_w m)) ∧ (Int.tmod (Int.tdiv (Int.tmod (((h 90 46) * 1103515245) + 12345) 2147483648) 65536) (ov_w m)) < m; omega)⟩, rfl, rfl, rfl, rfl, rfl, rfl, rfl, rfl, rfl, rfl, rfl, rfl, rfl, rfl, rfl, rfl⟩
abbrev P_Mo_draws_90 (F : ov_H × ov_Z) (z : ov_Z) (h : ov_H) : Option ov_V → ov_Z → ov_H → Prop := fun r0 z' h' => r0 = none ∧ ov_N F z' h' ∧ ((h' 90 2) = (h 90 2) ∧ (h' 90 7) = (h 90 7) ∧ (h' 90 8) = (h 90 8) ∧ (h' 90 13) = (h 90 13) ∧ (h' 90 20) = (h 90 20) ∧ (h' 90 22) = (h 90 22) ∧ (h' 90 25) = (h 90 25) ∧ (h' 90 26) = (h 90 26) ∧ (h' 90 28) = (h 90 28) ∧ (h' 90 29) = (h 90 29) ∧ (h' 90 30) = (h 90 30) ∧ (h' 90 34) = (h 90 34)) ∧ h' 91 = h 91 ∧ h' 92 = h 92 ∧ h' 93 = h 93 ∧ h' 94 = h 94 ∧ h' 95 = h 95 ∧ h' 96 = h 96 ∧ h' 97 = h 97 ∧ h' 98 = h 98 ∧ h' 99 = h 99 ∧ h' 100 = h 100 ∧ h' 103 = h 103 ∧ h' 104 = h 104 ∧ h' 105 = h 105 ∧ h' 106 = h 106 ∧ h' 109 = h 109 ∧ (∀ c : Int, 0 ≤ c → c ≤ 53 → ¬ ((h 96) (10 + 4 * c) = 2 ∧ ¬ (h 103) (4 + c) = 1) → (h' 114) c = 0)
set_option maxHeartbeats 4000000 in
theorem c_Mo_draws_90 {u : ov_U} {F : ov_H × ov_Z} {z : ov_Z} {h : ov_H} (d : Nat) (hd : 2 ≤ d) (U : ov_cap u) (I : ov_N F z h) (W : ov_WT (h 96)) : ov_T u d ov_m308 [ov_r 90] z h (P_Mo_draws_90 F z h) := by
  refine ov_en rfl (Nat.le_of_ble_eq_true rfl) ?_
  show ov_R u d ov_m308 0 [(0, ov_r 90)] [] z h (P_Mo_draws_90 F z h)
  have t0 := t96_0 I
  have t1 := t96_1 I
  refine ov_blk (ls2 := [(0, ov_r 90), (1, ov_i 0)]) (st2 := []) (pc2 := 2) b_308_0_2 rfl rfl ?_
  have L4 : ∀ (n1 : Nat) (x1 : Int) (z5 : ov_Z) (h6 : ov_H) (I7 : ov_N F z5 h6) (E8 : h6 91 = h 91) (E9 : h6 92 = h 92) (E10 : h6 93 = h 93) (E11 : h6 94 = h 94) (E12 : h6 95 = h 95) (E13 : h6 96 = h 96) (E14 : h6 97 = h 97) (E15 : h6 98 = h 98) (E16 : h6 99 = h 99) (E17 : h6 100 = h 100) (E18 : h6 103 = h 103) (E19 : h6 104 = h 104) (E20 : h6 105 = h 105) (E21 : h6 106 = h 106) (E22 : h6 109 = h 109) (xd : ∀ c : Int, 0 ≤ c → c < x1 → ¬ ((h 96) (10 + 4 * c) = 2 ∧ ¬ (h 103) (4 + c) = 1) → (h6 114) c = 0) (q3 : 0 ≤ x1 ∧ x1 ≤ 54 ∧ (h6 90 2) = (h 90 2) ∧ (h6 90 7) = (h 90 7) ∧ (h6 90 8) = (h 90 8) ∧ (h6 90 13) = (h 90 13) ∧ (h6 90 20) = (h 90 20) ∧ (h6 90 22) = (h 90 22) ∧ (h6 90 25) = (h 90 25) ∧ (h6 90 26) = (h 90 26) ∧ (h6 90 28) = (h 90 28) ∧ (h6 90 29) = (h 90 29) ∧ (h6 90 30) = (h 90 30) ∧ (h6 90 34) = (h 90 34)), 54 - x1 < (n1 : Int) → ov_R u d ov_m308 2 [(0, ov_r 90), (1, ov_i x1)] [] z5 h6 (P_Mo_draws_90 F z h) := by
    intro n1
    induction n1 with
    | zero =>
      intro x1 z5 h6 I7 E8 E9 E10 E11 E12 E13 E14 E15 E16 E17 E18 E19 E20 E21 E22 xd q3 hn23
      exact absurd hn23 (by omega)
    | succ n1 ih2 =>
      intro x1 z5 h6 I7 E8 E9 E10 E11 E12 E13 E14 E15 E16 E17 E18 E19 E20 E21 E22 xd q3 hn23
      refine ov_blk (ls2 := [(0, ov_r 90), (1, ov_i x1)]) (st2 := [ov_i 54, ov_i x1]) (pc2 := 5) b_308_2_2 rfl rfl ?_
      refine ov_icge (tgt := 82) d_308_5 (by decide) (by omega) (by omega) (fun c24 => ?_) (fun c24 => ?_)
      · skip
        exact ov_retv (st := []) d_308_82 rfl ⟨rfl, I7, (by show (h6 90 2) = (h 90 2) ∧ (h6 90 7) = (h 90 7) ∧ (h6 90 8) = (h 90 8) ∧ (h6 90 13) = (h 90 13) ∧ (h6 90 20) = (h 90 20) ∧ (h6 90 22) = (h 90 22) ∧ (h6 90 25) = (h 90 25) ∧ (h6 90 26) = (h 90 26) ∧ (h6 90 28) = (h 90 28) ∧ (h6 90 29) = (h 90 29) ∧ (h6 90 30) = (h 90 30) ∧ (h6 90 34) = (h 90 34); omega), E8, E9, E10, E11, E12, E13, E14, E15, E16, E17, E18, E19, E20, E21, E22, (fun c a b n => xd c a (by omega) n)⟩
      · skip
        refine ov_blk (ls2 := [(0, ov_r 90), (1, ov_i x1)]) (st2 := [ov_i 6, ov_i x1, ov_r 90]) (pc2 := 12) b_308_8_3 rfl rfl ?_
        refine ov_irem d_308_12 (by omega) (by omega) (by omega) ?_
        have g25 := ov_tm (a := x1) (b := 6) (by omega)
        have g26 := ov_tmg (a := x1) (b := 6) (by omega) (by omega)
        refine ov_blk (ls2 := [(0, ov_r 90), (1, ov_i x1)]) (st2 := [ov_i 6, ov_i x1, ov_i (Int.tmod x1 6), ov_r 90]) (pc2 := 16) b_308_13_2 rfl rfl ?_
        refine ov_idiv d_308_16 (by omega) (by omega) (by omega) ?_
        have g27 := ov_td (a := x1) (b := 6) (by omega)
        refine ov_cV (as := [ov_i (Int.tmod x1 6), ov_i (Int.tdiv x1 6)]) (st := []) (d2 := d - 1) d_308_17 lk_Mo_282 rfl (Nat.le_of_ble_eq_true rfl) (c := 1) (zb_90 I7) (zs_90 I7) ⟨by decide, rfl⟩ (by omega) (c_Mo_kindAt_90 (d - 1) (by omega) U I7 (Int.tmod x1 6) (Int.tdiv x1 6) (by omega) (by omega) (by omega)) ?_
        rintro _ _ _ ⟨v29, rfl, rfl, rfl, f28⟩
        show ov_R u d ov_m308 20 [(0, ov_r 90), (1, ov_i x1)] [ov_i v29] z5 h6 (P_Mo_draws_90 F z h)
        rw [show h6 96 = h 96 from E13] at f28
        have f30 : v29 = (h 96 (10 + 4 * (6 * (Int.tdiv x1 6) + (Int.tmod x1 6)))) - 1 ∧ -1 ≤ v29 ∧ v29 ≤ 3 := f28
        clear f28
        refine ov_blk (ls2 := [(0, ov_r 90), (1, ov_i x1)]) (st2 := [ov_i 1, ov_i v29]) (pc2 := 21) b_308_20_1 rfl rfl ?_
        refine ov_icne (tgt := 43) d_308_21 (by decide) (by omega) (by omega) (fun c31 => ?_) (fun c31 => ?_)
        · skip
          refine ov_blk (ls2 := [(0, ov_r 90), (1, ov_i x1), (2, ov_i 0)]) (st2 := [ov_r 90]) (pc2 := 46) b_308_43_3 rfl rfl ?_
          refine ov_getf (v := ov_r 114) d_308_46 fl_Mo_144 (zb_90 I7) (zs_90 I7) (congrArg ov_r (rg_90_47 I7)) ?_
          refine ov_blk (ls2 := [(0, ov_r 90), (1, ov_i x1), (2, ov_i 0)]) (st2 := [ov_i 0, ov_i x1, ov_r 114]) (pc2 := 51) b_308_49_2 rfl rfl ?_
          refine ov_ifeq (tgt := 74) d_308_51 (by decide) (by omega) (fun c32 => ?_) (fun c32 => ?_)
          · skip
            refine ov_blk (ls2 := [(0, ov_r 90), (1, ov_i x1), (2, ov_i 0)]) (st2 := [ov_i 0, ov_i x1, ov_r 114]) (pc2 := 75) b_308_74_1 rfl rfl ?_
            refine ov_iast d_308_75 (zb_114 I7) (zs_114 I7) (by omega) ?_
            have I33 := ua_114 (k := x1) (x := 0) I7 (by omega)
            refine ov_blk (ls2 := [(0, ov_r 90), (1, ov_i (x1 + 1)), (2, ov_i 0)]) (st2 := []) (pc2 := 79) b_308_76_1 rfl rfl ?_
            refine ov_goto (tgt := 2) d_308_79 (by decide) ?_
            refine ov_sub (ls2 := [(0, ov_r 90), (1, ov_i (x1 + 1))]) (List.Sublist.subset (by repeat (first | exact List.Sublist.refl _ | apply List.Sublist.cons_cons | apply List.Sublist.cons))) ?_
            have xd2 : ∀ c : Int, 0 ≤ c → c < x1 + 1 → ¬ (h 96 (10 + 4 * c) = 2 ∧ ¬ h 103 (4 + c) = 1) → (ov_up h6 114 x1 0) 114 c = 0 := fun c a b n => by
              by_cases e : c = x1
              · rw [e]
                exact ov_uj.1 rfl
              · rw [ov_up_j e]
                exact xd c a (by omega) n
            exact ih2 (x1 + 1) _ _ I33 E8 E9 E10 E11 E12 E13 E14 E15 E16 E17 E18 E19 E20 E21 E22 xd2 (by show 0 ≤ (x1 + 1) ∧ (x1 + 1) ≤ 54 ∧ (h6 90 2) = (h 90 2) ∧ (h6 90 7) = (h 90 7) ∧ (h6 90 8) = (h 90 8) ∧ (h6 90 13) = (h 90 13) ∧ (h6 90 20) = (h 90 20) ∧ (h6 90 22) = (h 90 22) ∧ (h6 90 25) = (h 90 25) ∧ (h6 90 26) = (h 90 26) ∧ (h6 90 28) = (h 90 28) ∧ (h6 90 29) = (h 90 29) ∧ (h6 90 30) = (h 90 30) ∧ (h6 90 34) = (h 90 34); omega) (by omega)
          · omega
        · skip
          refine ov_blk (ls2 := [(0, ov_r 90), (1, ov_i x1)]) (st2 := [ov_i 6, ov_i x1, ov_r 90]) (pc2 := 28) b_308_24_3 rfl rfl ?_
          refine ov_irem d_308_28 (by omega) (by omega) (by omega) ?_
          have g34 := ov_tm (a := x1) (b := 6) (by omega)
          have g35 := ov_tmg (a := x1) (b := 6) (by omega) (by omega)
          refine ov_blk (ls2 := [(0, ov_r 90), (1, ov_i x1)]) (st2 := [ov_i 6, ov_i x1, ov_i (Int.tmod x1 6), ov_r 90]) (pc2 := 32) b_308_29_2 rfl rfl ?_
          refine ov_idiv d_308_32 (by omega) (by omega) (by omega) ?_
          have g36 := ov_td (a := x1) (b := 6) (by omega)
          refine ov_cV (as := [ov_i (Int.tmod x1 6), ov_i (Int.tdiv x1 6)]) (st := []) (d2 := d - 1) d_308_33 lk_Mo_302 rfl (Nat.le_of_ble_eq_true rfl) (c := 1) (zb_90 I7) (zs_90 I7) ⟨by decide, rfl⟩ (by omega) (c_Mo_isKnown_90 (d - 1) (by omega) U I7 (Int.tmod x1 6) (Int.tdiv x1 6) (by omega) (by omega) (by omega)) ?_
          rintro _ _ _ ⟨v38, rfl, rfl, rfl, f37⟩
          show ov_R u d ov_m308 36 [(0, ov_r 90), (1, ov_i x1)] [ov_i v38] z5 h6 (P_Mo_draws_90 F z h)
          rw [show h6 103 = h 103 from E18] at f37
          rw [show h6 96 = h 96 from E13] at f37
          have f39 : (v38 = 0 ∨ v38 = 1) ∧ (v38 = 1 → ((h 96 (10 + 4 * (6 * (Int.tdiv x1 6) + (Int.tmod x1 6)))) = 2 ∧ (h 103 (4 + 6 * (Int.tdiv x1 6) + (Int.tmod x1 6))) = 1)) ∧ (v38 = 0 → ¬ ((h 96 (10 + 4 * (6 * (Int.tdiv x1 6) + (Int.tmod x1 6)))) = 2 ∧ (h 103 (4 + 6 * (Int.tdiv x1 6) + (Int.tmod x1 6))) = 1)) := f37
          clear f37
          refine ov_ifne (tgt := 43) d_308_36 (by decide) (by omega) (fun c40 => ?_) (fun c40 => ?_)
          · skip
            have f39_ : v38 = 1 := by omega
            have f41 : ((h 96 (10 + 4 * (6 * (Int.tdiv x1 6) + (Int.tmod x1 6)))) = 2 ∧ (h 103 (4 + 6 * (Int.tdiv x1 6) + (Int.tmod x1 6))) = 1) := f39.2.1 (by omega)
            clear f39
            refine ov_blk (ls2 := [(0, ov_r 90), (1, ov_i x1), (2, ov_i 0)]) (st2 := [ov_r 90]) (pc2 := 46) b_308_43_3 rfl rfl ?_
            refine ov_getf (v := ov_r 114) d_308_46 fl_Mo_144 (zb_90 I7) (zs_90 I7) (congrArg ov_r (rg_90_47 I7)) ?_
            refine ov_blk (ls2 := [(0, ov_r 90), (1, ov_i x1), (2, ov_i 0)]) (st2 := [ov_i 0, ov_i x1, ov_r 114]) (pc2 := 51) b_308_49_2 rfl rfl ?_
            refine ov_ifeq (tgt := 74) d_308_51 (by decide) (by omega) (fun c42 => ?_) (fun c42 => ?_)
            · skip
              refine ov_blk (ls2 := [(0, ov_r 90), (1, ov_i x1), (2, ov_i 0)]) (st2 := [ov_i 0, ov_i x1, ov_r 114]) (pc2 := 75) b_308_74_1 rfl rfl ?_
              refine ov_iast d_308_75 (zb_114 I7) (zs_114 I7) (by omega) ?_
              have I43 := ua_114 (k := x1) (x := 0) I7 (by omega)
              refine ov_blk (ls2 := [(0, ov_r 90), (1, ov_i (x1 + 1)), (2, ov_i 0)]) (st2 := []) (pc2 := 79) b_308_76_1 rfl rfl ?_
              refine ov_goto (tgt := 2) d_308_79 (by decide) ?_
              refine ov_sub (ls2 := [(0, ov_r 90), (1, ov_i (x1 + 1))]) (List.Sublist.subset (by repeat (first | exact List.Sublist.refl _ | apply List.Sublist.cons_cons | apply List.Sublist.cons))) ?_
              have xd2 : ∀ c : Int, 0 ≤ c → c < x1 + 1 → ¬ (h 96 (10 + 4 * c) = 2 ∧ ¬ h 103 (4 + c) = 1) → (ov_up h6 114 x1 0) 114 c = 0 := fun c a b n => by
                by_cases e : c = x1
                · rw [e]
                  exact ov_uj.1 rfl
                · rw [ov_up_j e]
                  exact xd c a (by omega) n
              exact ih2 (x1 + 1) _ _ I43 E8 E9 E10 E11 E12 E13 E14 E15 E16 E17 E18 E19 E20 E21 E22 xd2 (by show 0 ≤ (x1 + 1) ∧ (x1 + 1) ≤ 54 ∧ (h6 90 2) = (h 90 2) ∧ (h6 90 7) = (h 90 7) ∧ (h6 90 8) = (h 90 8) ∧ (h6 90 13) = (h 90 13) ∧ (h6 90 20) = (h 90 20) ∧ (h6 90 22) = (h 90 22) ∧ (h6 90 25) = (h 90 25) ∧ (h6 90 26) = (h 90 26) ∧ (h6 90 28) = (h 90 28) ∧ (h6 90 29) = (h 90 29) ∧ (h6 90 30) = (h 90 30) ∧ (h6 90 34) = (h 90 34); omega) (by omega)
            · omega
          · skip
            have f39_ : v38 = 0 := by omega
            have f44 : ¬ ((h 96 (10 + 4 * (6 * (Int.tdiv x1 6) + (Int.tmod x1 6)))) = 2 ∧ (h 103 (4 + 6 * (Int.tdiv x1 6) + (Int.tmod x1 6))) = 1) := f39.2.2 (by omega)
            clear f39
            refine ov_blk (ls2 := [(0, ov_r 90), (1, ov_i x1)]) (st2 := [ov_i 1]) (pc2 := 40) b_308_39_1 rfl rfl ?_
            refine ov_goto (tgt := 44) d_308_40 (by decide) ?_
            refine ov_blk (ls2 := [(0, ov_r 90), (1, ov_i x1), (2, ov_i 1)]) (st2 := [ov_r 90]) (pc2 := 46) b_308_44_2 rfl rfl ?_
            refine ov_getf (v := ov_r 114) d_308_46 fl_Mo_144 (zb_90 I7) (zs_90 I7) (congrArg ov_r (rg_90_47 I7)) ?_
            refine ov_blk (ls2 := [(0, ov_r 90), (1, ov_i x1), (2, ov_i 1)]) (st2 := [ov_i 1, ov_i x1, ov_r 114]) (pc2 := 51) b_308_49_2 rfl rfl ?_
            refine ov_ifeq (tgt := 74) d_308_51 (by decide) (by omega) (fun c45 => ?_) (fun c45 => ?_)
            · omega
            · skip
              refine ov_blk (ls2 := [(0, ov_r 90), (1, ov_i x1), (2, ov_i 1)]) (st2 := [ov_i 6, ov_i x1, ov_r 90, ov_r 90, ov_i x1, ov_r 114]) (pc2 := 59) b_308_54_4 rfl rfl ?_
              refine ov_irem d_308_59 (by omega) (by omega) (by omega) ?_
              have g46 := ov_tm (a := x1) (b := 6) (by omega)
              have g47 := ov_tmg (a := x1) (b := 6) (by omega) (by omega)
              refine ov_blk (ls2 := [(0, ov_r 90), (1, ov_i x1), (2, ov_i 1)]) (st2 := [ov_i 6, ov_i x1, ov_i (Int.tmod x1 6), ov_r 90, ov_r 90, ov_i x1, ov_r 114]) (pc2 := 63) b_308_60_2 rfl rfl ?_
              refine ov_idiv d_308_63 (by omega) (by omega) (by omega) ?_
              have g48 := ov_td (a := x1) (b := 6) (by omega)
              refine ov_blk (ls2 := [(0, ov_r 90), (1, ov_i x1), (2, ov_i 1)]) (st2 := [ov_i 1, ov_i (Int.tdiv x1 6), ov_i (Int.tmod x1 6), ov_r 90, ov_r 90, ov_i x1, ov_r 114]) (pc2 := 65) b_308_64_1 rfl rfl ?_
              refine ov_cV (as := [ov_i (Int.tmod x1 6), ov_i (Int.tdiv x1 6), ov_i 1]) (st := [ov_r 90, ov_i x1, ov_r 114]) (d2 := d - 1) d_308_65 lk_Mo_289 rfl (Nat.le_of_ble_eq_true rfl) (c := 1) (zb_90 I7) (zs_90 I7) ⟨by decide, rfl⟩ (by omega) (c_Mo_lightAt_90 (d - 1) (by omega) U I7 (Int.tmod x1 6) (Int.tdiv x1 6) 1 (by omega) (by omega) (by omega) (by omega) (by omega)) ?_
              rintro _ _ _ ⟨v50, rfl, rfl, rfl, f49⟩
              show ov_R u d ov_m308 68 [(0, ov_r 90), (1, ov_i x1), (2, ov_i 1)] [ov_i v50, ov_r 90, ov_i x1, ov_r 114] z5 h6 (P_Mo_draws_90 F z h)
              rw [show h6 96 = h 96 from E13] at f49
              have f51 : v50 = (h 96 (10 + 4 * (6 * (Int.tdiv x1 6) + (Int.tmod x1 6)) + (1 : Int))) ∧ ((1 : Int) = 1 → 0 ≤ v50 ∧ v50 ≤ 60) ∧ ((1 : Int) = 2 → 0 ≤ v50 ∧ v50 ≤ 59) ∧ ((1 : Int) = 3 → 0 ≤ v50 ∧ v50 ≤ 60) := f49
              clear f49
              have w1 := ov_WT_at W (c := 6 * Int.tdiv x1 6 + Int.tmod x1 6) (by omega)
              refine ov_cV (as := [ov_i v50]) (st := [ov_i x1, ov_r 114]) (d2 := d - 1) d_308_68 lk_Mo_482 rfl (Nat.le_of_ble_eq_true rfl) (c := 1) (zb_90 I7) (zs_90 I7) ⟨by decide, rfl⟩ (by omega) (c_Mo_draw_90 (d - 1) (by omega) U I7 v50 (by omega) (by omega)) ?_
              rintro _ z70 h71 ⟨v53, rfl, I72, f52, e54, e55, e56, e57, e58, e59, e60, e61, e62, e63, e64, e65, e66, e67, e68, e69⟩
              have E73 : h71 91 = h 91 := Eq.trans e54 E8
              have E74 : h71 92 = h 92 := Eq.trans e55 E9
              have E75 : h71 93 = h 93 := Eq.trans e56 E10
              have E76 : h71 94 = h 94 := Eq.trans e57 E11
              have E77 : h71 95 = h 95 := Eq.trans e58 E12
              have E78 : h71 96 = h 96 := Eq.trans e59 E13
              have E79 : h71 97 = h 97 := Eq.trans e60 E14
              have E80 : h71 98 = h 98 := Eq.trans e61 E15
              have E81 : h71 99 = h 99 := Eq.trans e62 E16
              have E82 : h71 100 = h 100 := Eq.trans e63 E17
              have E83 : h71 103 = h 103 := Eq.trans e64 E18
              have E84 : h71 104 = h 104 := Eq.trans e65 E19
              have E85 : h71 105 = h 105 := Eq.trans e66 E20
              have E86 : h71 106 = h 106 := Eq.trans e67 E21
              have E87 : h71 109 = h 109 := Eq.trans e68 E22
              have E88 : h71 114 = h6 114 := e69
              show ov_R u d ov_m308 71 [(0, ov_r 90), (1, ov_i x1), (2, ov_i 1)] [ov_i v53, ov_i x1, ov_r 114] z70 h71 (P_Mo_draws_90 F z h)
              have f89 : (h71 90 2) = (h6 90 2) ∧ (h71 90 7) = (h6 90 7) ∧ (h71 90 8) = (h6 90 8) ∧ (h71 90 13) = (h6 90 13) ∧ (h71 90 20) = (h6 90 20) ∧ (h71 90 22) = (h6 90 22) ∧ (h71 90 25) = (h6 90 25) ∧ (h71 90 26) = (h6 90 26) ∧ (h71 90 28) = (h6 90 28) ∧ (h71 90 29) = (h6 90 29) ∧ (h71 90 30) = (h6 90 30) ∧ (h71 90 34) = (h6 90 34) ∧ 0 ≤ v53 ∧ v53 < v50 := f52
              clear f52
              refine ov_goto (tgt := 75) d_308_71 (by decide) ?_
              refine ov_iast d_308_75 (zb_114 I72) (zs_114 I72) (by omega) ?_
              have I90 := ua_114 (k := x1) (x := v53) I72 (by omega)
              refine ov_blk (ls2 := [(0, ov_r 90), (1, ov_i (x1 + 1)), (2, ov_i 1)]) (st2 := []) (pc2 := 79) b_308_76_1 rfl rfl ?_
              refine ov_goto (tgt := 2) d_308_79 (by decide) ?_
              refine ov_sub (ls2 := [(0, ov_r 90), (1, ov_i (x1 + 1))]) (List.Sublist.subset (by repeat (first | exact List.Sublist.refl _ | apply List.Sublist.cons_cons | apply List.Sublist.cons))) ?_
              have xd2 : ∀ c : Int, 0 ≤ c → c < x1 + 1 → ¬ (h 96 (10 + 4 * c) = 2 ∧ ¬ h 103 (4 + c) = 1) → (ov_up h71 114 x1 v53) 114 c = 0 := fun c a b n => by
                by_cases e : c = x1
                · exfalso
                  apply n
                  rw [e]
                  have ix : x1 = 6 * Int.tdiv x1 6 + Int.tmod x1 6 := by omega
                  have iy : 4 + x1 = 4 + 6 * Int.tdiv x1 6 + Int.tmod x1 6 := by omega
                  rw [iy, show 10 + 4 * x1 = 10 + 4 * (6 * Int.tdiv x1 6 + Int.tmod x1 6) by omega]
                  omega
                · rw [ov_up_j e, show h71 114 = h6 114 from E88]
                  exact xd c a (by omega) n
              exact ih2 (x1 + 1) _ _ I90 E73 E74 E75 E76 E77 E78 E79 E80 E81 E82 E83 E84 E85 E86 E87 xd2 (by show 0 ≤ (x1 + 1) ∧ (x1 + 1) ≤ 54 ∧ (h71 90 2) = (h 90 2) ∧ (h71 90 7) = (h 90 7) ∧ (h71 90 8) = (h 90 8) ∧ (h71 90 13) = (h 90 13) ∧ (h71 90 20) = (h 90 20) ∧ (h71 90 22) = (h 90 22) ∧ (h71 90 25) = (h 90 25) ∧ (h71 90 26) = (h 90 26) ∧ (h71 90 28) = (h 90 28) ∧ (h71 90 29) = (h 90 29) ∧ (h71 90 30) = (h 90 30) ∧ (h71 90 34) = (h 90 34); omega) (by omega)
  exact L4 55 0 _ _ I rfl rfl rfl rfl rfl rfl rfl rfl rfl rfl rfl rfl rfl rfl rfl (fun c a b => absurd a (by omega)) (by show 0 ≤ 0 ∧ 0 ≤ 54 ∧ (h 90 2) = (h 90 2) ∧ (h 90 7) = (h 90 7) ∧ (h 90 8) = (h 90 8) ∧ (h 90 13) = (h 90 13) ∧ (h 90 20) = (h 90 20) ∧ (h 90 22) = (h 90 22) ∧ (h 90 25) = (h 90 25) ∧ (h 90 26) = (h 90 26) ∧ (h 90 28) = (h 90 28) ∧ (h 90 29) = (h 90 29) ∧ (h 90 30) = (h 90 30) ∧ (h 90 34) = (h 90 34); omega) (by omega)

abbrev P_fReader_readLine_3_k3_1_58 (F : ov_H) (z : ov_Z) (h : ov_H) (t : Int → Int) (m : Int) (p : Int) (A : Int → Int) : Option ov_V → ov_Z → ov_H → Prop := fun r0 z' h' => ∃ r : Int, r0 = some (ov_i r) ∧ ov_I F z' h' ∧ (∀ a : Int, a ≠ 1 ∧ a ≠ 3 ∧ (a < 58 ∨ 64 < a) ∧ (a < 66 ∨ 68 < a) → h' a = h a) ∧ ((r = 0 ∧ ∃ f : Int, ∃ q : Int, ((h' 3 2) = f ∧ 1 ≤ f ∧ (h' 3 1) = (h 3 1)) ∧ (pt_EL t m A p f q)) ∨ (r = 0 ∧ ∃ q : Int, ((pt_is t m q 59) = 0 ∧ (h' 3 2) = 1 + 16 * q ∧ 0 ≤ q ∧ (h' 3 1) = (h 3 1)) ∧ (pt_EL t m A p 0 q)) ∨ (r = 1 ∧ ∃ q : Int, ((pt_is t m q 59) = 1 ∧ p ≤ q ∧ q ≤ m ∧ (h' 3 1) = (h 3 1) ∧ (h' 3 2) = (h 3 2)) ∧ (pt_EL t m A p 0 q) ∧ (pt_TC t m (h' 1) (pt_nt t m q)) ∧ (pt_CR t m (pt_LA t m A p) (h' 58) (h' 59) (h' 60) (h' 61) (h' 62) (h' 63) (h' 64) (h' 66))))
set_option maxHeartbeats 4000000 in
theorem c_fReader_readLine_3_k3_1_58 {u : ov_U} {F : ov_H} (t : Int → Int) (m : Int) (p : Int) (A : Int → Int) {z : ov_Z} {h : ov_H} (d : Nat) (hd : 41 ≤ d) (U : ov_cap u) (I : ov_I F z h) (hw : ov_kw 553114091835134836746 F) (k0 : h 3 1 = 58) (et : (h 2) = t) (tc : pt_TC t m (h 1) p) (cr : pt_CR t m A (h 58) (h 59) (h 60) (h 61) (h 62) (h 63) (h 64) (h 66)) : ov_T u d ov_m57 [ov_r 3] z h (P_fReader_readLine_3_k3_1_58 F z h t m p A) := by
  refine ov_en rfl (Nat.le_of_ble_eq_true rfl) ?_
  show ov_R u d ov_m57 0 [(0, ov_r 3)] [] z h (P_fReader_readLine_3_k3_1_58 F z h t m p A)
  have gA := pt_CR_r cr
  have tb := pt_TC_b tc
  refine ov_blk (ls2 := [(0, ov_r 3)]) (st2 := [ov_r 3]) (pc2 := 1) b_57_0_1 rfl rfl ?_
  refine ov_getf (v := ov_r 1) d_57_1 fl_Reader_9 (zb_3 I) (zs_3 I) (congrArg ov_r (rg_3_0 I)) ?_
  refine ov_ldc2 (n := 465624852596) d_57_4 kc_Reader_108 ?_
  refine ov_cV (as := [ov_l 465624852596]) (st := []) (d2 := d - 1) d_57_7 lk_Reader_110 rfl (Nat.le_of_ble_eq_true rfl) (c := 8) (zb_1 I) (zs_1 I) ⟨by decide, rfl⟩ (by omega) (c_fTape_isWord_1 t m p (d - 1) (by omega) U I 465624852596 (by show -9223372036854775808 ≤ (465624852596 : Int) ∧ (465624852596 : Int) ≤ 9223372036854775807; omega) tc) ?_
  rintro _ _ _ ⟨v1, rfl, rfl, rfl, y2⟩
  rcases y2 with ⟨rfl, f3⟩ | ⟨rfl, f4⟩
  · skip
    show ov_R u d ov_m57 10 [(0, ov_r 3)] [ov_i 0] z h (P_fReader_readLine_3_k3_1_58 F z h t m p A)
    have f5 : pt_iw t m p (465624852596 : Int) = 0 := f3
    clear f3
    refine ov_ifeq (tgt := 18) d_57_10 (by decide) (by omega) (fun c6 => ?_) (fun c6 => ?_)
    · skip
      refine ov_blk (ls2 := [(0, ov_r 3)]) (st2 := [ov_r 3]) (pc2 := 19) b_57_18_1 rfl rfl ?_
      refine ov_getf (v := ov_r 1) d_57_19 fl_Reader_9 (zb_3 I) (zs_3 I) (congrArg ov_r (rg_3_0 I)) ?_
      refine ov_ldc2 (n := 6447474) d_57_22 kc_Reader_116 ?_
      refine ov_cV (as := [ov_l 6447474]) (st := []) (d2 := d - 1) d_57_25 lk_Reader_110 rfl (Nat.le_of_ble_eq_true rfl) (c := 8) (zb_1 I) (zs_1 I) ⟨by decide, rfl⟩ (by omega) (c_fTape_isWord_1 t m p (d - 1) (by omega) U I 6447474 (by show -9223372036854775808 ≤ (6447474 : Int) ∧ (6447474 : Int) ≤ 9223372036854775807; omega) tc) ?_
      rintro _ _ _ ⟨v7, rfl, rfl, rfl, y8⟩
      rcases y8 with ⟨rfl, f9⟩ | ⟨rfl, f10⟩
      · skip
        show ov_R u d ov_m57 28 [(0, ov_r 3)] [ov_i 0] z h (P_fReader_readLine_3_k3_1_58 F z h t m p A)
        have f11 : pt_iw t m p (6447474 : Int) = 0 := f9
        clear f9
        refine ov_ifeq (tgt := 36) d_57_28 (by decide) (by omega) (fun c12 => ?_) (fun c12 => ?_)
        · skip
          refine ov_blk (ls2 := [(0, ov_r 3)]) (st2 := [ov_r 3]) (pc2 := 37) b_57_36_1 rfl rfl ?_
          refine ov_getf (v := ov_r 1) d_57_37 fl_Reader_9 (zb_3 I) (zs_3 I) (congrArg ov_r (rg_3_0 I)) ?_
          refine ov_ldc2 (n := 1920298085) d_57_40 kc_Reader_121 ?_
          refine ov_cV (as := [ov_l 1920298085]) (st := []) (d2 := d - 1) d_57_43 lk_Reader_110 rfl (Nat.le_of_ble_eq_true rfl) (c := 8) (zb_1 I) (zs_1 I) ⟨by decide, rfl⟩ (by omega) (c_fTape_isWord_1 t m p (d - 1) (by omega) U I 1920298085 (by show -9223372036854775808 ≤ (1920298085 : Int) ∧ (1920298085 : Int) ≤ 9223372036854775807; omega) tc) ?_
          rintro _ _ _ ⟨v13, rfl, rfl, rfl, y14⟩
          rcases y14 with ⟨rfl, f15⟩ | ⟨rfl, f16⟩
          · skip
            show ov_R u d ov_m57 46 [(0, ov_r 3)] [ov_i 0] z h (P_fReader_readLine_3_k3_1_58 F z h t m p A)
            have f17 : pt_iw t m p (1920298085 : Int) = 0 := f15
            clear f15
            refine ov_ifeq (tgt := 54) d_57_46 (by decide) (by omega) (fun c18 => ?_) (fun c18 => ?_)
            · skip
              refine ov_blk (ls2 := [(0, ov_r 3)]) (st2 := [ov_r 3]) (pc2 := 55) b_57_54_1 rfl rfl ?_
              refine ov_getf (v := ov_r 1) d_57_55 fl_Reader_9 (zb_3 I) (zs_3 I) (congrArg ov_r (rg_3_0 I)) ?_
              refine ov_ldc2 (n := 2002873451) d_57_58 kc_Reader_126 ?_
              refine ov_cV (as := [ov_l 2002873451]) (st := []) (d2 := d - 1) d_57_61 lk_Reader_110 rfl (Nat.le_of_ble_eq_true rfl) (c := 8) (zb_1 I) (zs_1 I) ⟨by decide, rfl⟩ (by omega) (c_fTape_isWord_1 t m p (d - 1) (by omega) U I 2002873451 (by show -9223372036854775808 ≤ (2002873451 : Int) ∧ (2002873451 : Int) ≤ 9223372036854775807; omega) tc) ?_
              rintro _ _ _ ⟨v19, rfl, rfl, rfl, y20⟩
              rcases y20 with ⟨rfl, f21⟩ | ⟨rfl, f22⟩
              · skip
                show ov_R u d ov_m57 64 [(0, ov_r 3)] [ov_i 0] z h (P_fReader_readLine_3_k3_1_58 F z h t m p A)
                have f23 : pt_iw t m p (2002873451 : Int) = 0 := f21
                clear f21
                refine ov_ifeq (tgt := 76) d_57_64 (by decide) (by omega) (fun c24 => ?_) (fun c24 => ?_)
                · skip
                  refine ov_blk (ls2 := [(0, ov_r 3)]) (st2 := [ov_r 3]) (pc2 := 77) b_57_76_1 rfl rfl ?_
                  refine ov_getf (v := ov_r 1) d_57_77 fl_Reader_9 (zb_3 I) (zs_3 I) (congrArg ov_r (rg_3_0 I)) ?_
                  refine ov_ldc2 (n := 7501166) d_57_80 kc_Reader_132 ?_
                  refine ov_cV (as := [ov_l 7501166]) (st := []) (d2 := d - 1) d_57_83 lk_Reader_110 rfl (Nat.le_of_ble_eq_true rfl) (c := 8) (zb_1 I) (zs_1 I) ⟨by decide, rfl⟩ (by omega) (c_fTape_isWord_1 t m p (d - 1) (by omega) U I 7501166 (by show -9223372036854775808 ≤ (7501166 : Int) ∧ (7501166 : Int) ≤ 9223372036854775807; omega) tc) ?_
                  rintro _ _ _ ⟨v25, rfl, rfl, rfl, y26⟩
                  rcases y26 with ⟨rfl, f27⟩ | ⟨rfl, f28⟩
                  · skip
                    show ov_R u d ov_m57 86 [(0, ov_r 3)] [ov_i 0] z h (P_fReader_readLine_3_k3_1_58 F z h t m p A)
                    have f29 : pt_iw t m p (7501166 : Int) = 0 := f27
                    clear f27
                    refine ov_ifeq (tgt := 98) d_57_86 (by decide) (by omega) (fun c30 => ?_) (fun c30 => ?_)
                    · skip
                      refine ov_blk (ls2 := [(0, ov_r 3)]) (st2 := [ov_r 3]) (pc2 := 99) b_57_98_1 rfl rfl ?_
                      refine ov_getf (v := ov_r 1) d_57_99 fl_Reader_9 (zb_3 I) (zs_3 I) (congrArg ov_r (rg_3_0 I)) ?_
                      refine ov_ldc2 (n := 1936486263) d_57_102 kc_Reader_134 ?_
                      refine ov_cV (as := [ov_l 1936486263]) (st := []) (d2 := d - 1) d_57_105 lk_Reader_110 rfl (Nat.le_of_ble_eq_true rfl) (c := 8) (zb_1 I) (zs_1 I) ⟨by decide, rfl⟩ (by omega) (c_fTape_isWord_1 t m p (d - 1) (by omega) U I 1936486263 (by show -9223372036854775808 ≤ (1936486263 : Int) ∧ (1936486263 : Int) ≤ 9223372036854775807; omega) tc) ?_
                      rintro _ _ _ ⟨v31, rfl, rfl, rfl, y32⟩
                      rcases y32 with ⟨rfl, f33⟩ | ⟨rfl, f34⟩
                      · skip
                        show ov_R u d ov_m57 108 [(0, ov_r 3)] [ov_i 0] z h (P_fReader_readLine_3_k3_1_58 F z h t m p A)
                        have f35 : pt_iw t m p (1936486263 : Int) = 0 := f33
                        clear f33
                        refine ov_ifeq (tgt := 120) d_57_108 (by decide) (by omega) (fun c36 => ?_) (fun c36 => ?_)
                        · skip
                          refine ov_blk (ls2 := [(0, ov_r 3)]) (st2 := [ov_r 3]) (pc2 := 121) b_57_120_1 rfl rfl ?_
                          refine ov_getf (v := ov_r 1) d_57_121 fl_Reader_9 (zb_3 I) (zs_3 I) (congrArg ov_r (rg_3_0 I)) ?_
                          refine ov_ldc2 (n := 1920298611) d_57_124 kc_Reader_136 ?_
                          refine ov_cV (as := [ov_l 1920298611]) (st := []) (d2 := d - 1) d_57_127 lk_Reader_110 rfl (Nat.le_of_ble_eq_true rfl) (c := 8) (zb_1 I) (zs_1 I) ⟨by decide, rfl⟩ (by omega) (c_fTape_isWord_1 t m p (d - 1) (by omega) U I 1920298611 (by show -9223372036854775808 ≤ (1920298611 : Int) ∧ (1920298611 : Int) ≤ 9223372036854775807; omega) tc) ?_
                          rintro _ _ _ ⟨v37, rfl, rfl, rfl, y38⟩
                          rcases y38 with ⟨rfl, f39⟩ | ⟨rfl, f40⟩
                          · skip
                            show ov_R u d ov_m57 130 [(0, ov_r 3)] [ov_i 0] z h (P_fReader_readLine_3_k3_1_58 F z h t m p A)
                            have f41 : pt_iw t m p (1920298611 : Int) = 0 := f39
                            clear f39
                            refine ov_ifeq (tgt := 142) d_57_130 (by decide) (by omega) (fun c42 => ?_) (fun c42 => ?_)
                            · skip
                              refine ov_blk (ls2 := [(0, ov_r 3)]) (st2 := [ov_r 3]) (pc2 := 143) b_57_142_1 rfl rfl ?_
                              refine ov_getf (v := ov_r 1) d_57_143 fl_Reader_9 (zb_3 I) (zs_3 I) (congrArg ov_r (rg_3_0 I)) ?_
                              refine ov_ldc2 (n := 426953501796) d_57_146 kc_Reader_138 ?_
                              refine ov_cV (as := [ov_l 426953501796]) (st := []) (d2 := d - 1) d_57_149 lk_Reader_110 rfl (Nat.le_of_ble_eq_true rfl) (c := 8) (zb_1 I) (zs_1 I) ⟨by decide, rfl⟩ (by omega) (c_fTape_isWord_1 t m p (d - 1) (by omega) U I 426953501796 (by show -9223372036854775808 ≤ (426953501796 : Int) ∧ (426953501796 : Int) ≤ 9223372036854775807; omega) tc) ?_
                              rintro _ _ _ ⟨v43, rfl, rfl, rfl, y44⟩
                              rcases y44 with ⟨rfl, f45⟩ | ⟨rfl, f46⟩
                              · skip
                                show ov_R u d ov_m57 152 [(0, ov_r 3)] [ov_i 0] z h (P_fReader_readLine_3_k3_1_58 F z h t m p A)
                                have f47 : pt_iw t m p (426953501796 : Int) = 0 := f45
                                clear f45
                                refine ov_ifeq (tgt := 162) d_57_152 (by decide) (by omega) (fun c48 => ?_) (fun c48 => ?_)
                                · skip
                                  have hk : pt_lk t m p = (-1) := by unfold pt_lk; rw [if_neg (by omega), if_neg (by omega), if_neg (by omega), if_neg (by omega), if_neg (by omega), if_neg (by omega), if_neg (by omega), if_neg (by omega)]
                                  refine ov_blk (ls2 := [(0, ov_r 3)]) (st2 := [ov_i 1, ov_r 3]) (pc2 := 164) b_57_162_2 rfl rfl ?_
                                  refine ov_cV (as := [ov_i 1]) (st := []) (d2 := d - 1) d_57_164 lk_Reader_58 rfl (Nat.le_of_ble_eq_true rfl) (c := 6) (zb_3 I) (zs_3 I) ⟨by decide, rfl⟩ (by omega) (c_fReader_fail_3 t m p (d - 1) (by omega) U I (ov_kws hw (by decide +kernel)) 1 (by omega) (by show 1 ≤ (1 : Int) ∧ (1 : Int) ≤ 5; omega) (show h 2 = t from Eq.trans (show h 2 = h 2 from rfl) et) tc) ?_
                                  rintro _ z50 h51 ⟨v49, rfl, I52, y53, y54⟩
                                  have E55 : h51 1 = h 1 := Eq.trans (y53 1 (by decide)) (show h 1 = h 1 from rfl)
                                  have E56 : h51 2 = h 2 := Eq.trans (y53 2 (by decide)) (show h 2 = h 2 from rfl)
                                  have E57 : h51 58 = h 58 := Eq.trans (y53 58 (by decide)) (show h 58 = h 58 from rfl)
                                  have E58 : h51 59 = h 59 := Eq.trans (y53 59 (by decide)) (show h 59 = h 59 from rfl)
                                  have E59 : h51 60 = h 60 := Eq.trans (y53 60 (by decide)) (show h 60 = h 60 from rfl)
                                  have E60 : h51 61 = h 61 := Eq.trans (y53 61 (by decide)) (show h 61 = h 61 from rfl)
                                  have E61 : h51 62 = h 62 := Eq.trans (y53 62 (by decide)) (show h 62 = h 62 from rfl)
                                  have E62 : h51 63 = h 63 := Eq.trans (y53 63 (by decide)) (show h 63 = h 63 from rfl)
                                  have E63 : h51 64 = h 64 := Eq.trans (y53 64 (by decide)) (show h 64 = h 64 from rfl)
                                  have E64 : h51 66 = h 66 := Eq.trans (y53 66 (by decide)) (show h 66 = h 66 from rfl)
                                  have fr65 : ∀ a : Int, a ≠ 1 ∧ a ≠ 3 ∧ (a < 58 ∨ 64 < a) ∧ (a < 66 ∨ 68 < a) → h51 a = h a := fun a ca => Eq.trans (y53 a (by omega)) rfl
                                  rcases y54 with ⟨rfl, f67⟩
                                  · skip
                                    show ov_R u d ov_m57 167 [(0, ov_r 3)] [ov_i 0] z50 h51 (P_fReader_readLine_3_k3_1_58 F z h t m p A)
                                    have f68 : (h51 3 2) = (1 : Int) + 16 * p ∧ (h51 3 1) = (h 3 1) := f67
                                    clear f67
                                    have e66 : h51 3 1 = 58 := by omega
                                    exact ov_retz (st := []) d_57_167 rfl (by omega) ⟨_, rfl, I52, (fun a ca => (fr65 a ca)), (Or.inl ⟨rfl, (1 + 16 * p), p, (by show (h51 3 2) = (1 + 16 * p) ∧ 1 ≤ (1 + 16 * p) ∧ (h51 3 1) = (h 3 1); omega), (Or.inr (Or.inr (Or.inr (Or.inr (Or.inr (Or.inr (Or.inr (⟨by omega, by omega, rfl⟩))))))))⟩)⟩
                                · omega
                              · skip
                                show ov_R u d ov_m57 152 [(0, ov_r 3)] [ov_i 1] z h (P_fReader_readLine_3_k3_1_58 F z h t m p A)
                                have f69 : pt_iw t m p (426953501796 : Int) = 1 ∧ pt_ty t m p = 2 ∧ pt_w256 t m p = (426953501796 : Int) := f46
                                clear f46
                                refine ov_ifeq (tgt := 162) d_57_152 (by decide) (by omega) (fun c70 => ?_) (fun c70 => ?_)
                                · omega
                                · skip
                                  have hk : pt_lk t m p = 7 := by unfold pt_lk; rw [if_neg (by omega), if_neg (by omega), if_neg (by omega), if_neg (by omega), if_neg (by omega), if_neg (by omega), if_neg (by omega), if_pos (by omega)]
                                  refine ov_blk (ls2 := [(0, ov_r 3)]) (st2 := [ov_r 3]) (pc2 := 156) b_57_155_1 rfl rfl ?_
                                  refine ov_cV (as := []) (st := []) (d2 := d - 1) d_57_156 lk_Reader_140 rfl (Nat.le_of_ble_eq_true rfl) (c := 6) (zb_3 I) (zs_3 I) ⟨by decide, rfl⟩ (by omega) (c_fReader_readChild_3_k3_1_58 t m p A (d - 1) (by omega) U I (ov_kws hw (by decide +kernel)) k0 (show h 2 = t from Eq.trans (show h 2 = h 2 from rfl) et) tc cr) ?_
                                  rintro _ z72 h73 ⟨v71, rfl, I74, y75, y76⟩
                                  have E77 : h73 2 = h 2 := Eq.trans (y75 2 (by decide)) (show h 2 = h 2 from rfl)
                                  have E78 : h73 59 = h 59 := Eq.trans (y75 59 (by decide)) (show h 59 = h 59 from rfl)
                                  have E79 : h73 60 = h 60 := Eq.trans (y75 60 (by decide)) (show h 60 = h 60 from rfl)
                                  have E80 : h73 61 = h 61 := Eq.trans (y75 61 (by decide)) (show h 61 = h 61 from rfl)
                                  have E81 : h73 62 = h 62 := Eq.trans (y75 62 (by decide)) (show h 62 = h 62 from rfl)
                                  have E82 : h73 63 = h 63 := Eq.trans (y75 63 (by decide)) (show h 63 = h 63 from rfl)
                                  have E83 : h73 64 = h 64 := Eq.trans (y75 64 (by decide)) (show h 64 = h 64 from rfl)
                                  have E84 : h73 66 = h 66 := Eq.trans (y75 66 (by decide)) (show h 66 = h 66 from rfl)
                                  have fr85 : ∀ a : Int, a ≠ 1 ∧ a ≠ 3 ∧ (a < 58 ∨ 64 < a) ∧ (a < 66 ∨ 68 < a) → h73 a = h a := fun a ca => Eq.trans (y75 a (by omega)) rfl
                                  rcases y76 with ⟨rfl, f87⟩ | ⟨rfl, f88⟩ | ⟨rfl, f89, y90, y91⟩
                                  · skip
                                    show ov_R u d ov_m57 159 [(0, ov_r 3)] [ov_i 0] z72 h73 (P_fReader_readLine_3_k3_1_58 F z h t m p A)
                                    have f92 : (h73 3 2) = (pt_chF A p) ∧ 1 ≤ (pt_chF A p) ∧ (h73 3 1) = (h 3 1) := f87
                                    clear f87
                                    have e86 : h73 3 1 = 58 := by omega
                                    refine ov_goto (tgt := 167) d_57_159 (by decide) ?_
                                    exact ov_retz (st := []) d_57_167 rfl (by omega) ⟨_, rfl, I74, (fun a ca => (fr85 a ca)), (Or.inl ⟨rfl, (pt_chF A p), (pt_nt t m p), (by show (h73 3 2) = (pt_chF A p) ∧ 1 ≤ (pt_chF A p) ∧ (h73 3 1) = (h 3 1); omega), (Or.inr (Or.inr (Or.inr (Or.inr (Or.inr (Or.inr (Or.inl ⟨hk, by omega, rfl⟩)))))))⟩)⟩
                                  · skip
                                    show ov_R u d ov_m57 159 [(0, ov_r 3)] [ov_i 0] z72 h73 (P_fReader_readLine_3_k3_1_58 F z h t m p A)
                                    have f93 : (pt_chF A p) = 0 ∧ (pt_is t m (pt_nt t m p) 59) = 0 ∧ (h73 3 2) = 1 + 16 * (pt_nt t m p) ∧ 0 ≤ (pt_nt t m p) ∧ (h73 3 1) = (h 3 1) := f88
                                    clear f88
                                    have e86 : h73 3 1 = 58 := by omega
                                    refine ov_goto (tgt := 167) d_57_159 (by decide) ?_
                                    exact ov_retz (st := []) d_57_167 rfl (by omega) ⟨_, rfl, I74, (fun a ca => (fr85 a ca)), (Or.inr (Or.inl ⟨rfl, (pt_nt t m p), (by show (pt_is t m (pt_nt t m p) 59) = 0 ∧ (h73 3 2) = 1 + 16 * (pt_nt t m p) ∧ 0 ≤ (pt_nt t m p) ∧ (h73 3 1) = (h 3 1); omega), (Or.inr (Or.inr (Or.inr (Or.inr (Or.inr (Or.inr (Or.inl ⟨hk, by omega, rfl⟩)))))))⟩))⟩
                                  · skip
                                    show ov_R u d ov_m57 159 [(0, ov_r 3)] [ov_i 1] z72 h73 (P_fReader_readLine_3_k3_1_58 F z h t m p A)
                                    have f94 : (pt_chF A p) = 0 ∧ (pt_is t m (pt_nt t m p) 59) = 1 ∧ (h73 3 1) = (h 3 1) ∧ (h73 3 2) = (h 3 2) := f89
                                    clear f89
                                    have e86 : h73 3 1 = 58 := by omega
                                    have y90_ : pt_TC t m (h73 1) (pt_nt t m (pt_nt t m p)) := y90
                                    have g95 := pt_TC_b y90_
                                    have g96 := pt_nt_le (t := t) (n := m) (p := p) (by omega)
                                    have g97 := pt_nt_le (t := t) (n := m) (p := (pt_nt t m p)) (by omega)
                                    have y91_ : pt_CR t m (pt_chA A) (h73 58) (h73 59) (h73 60) (h73 61) (h73 62) (h73 63) (h73 64) (h73 66) := y91
                                    refine ov_goto (tgt := 167) d_57_159 (by decide) ?_
                                    have hA : pt_LA t m A p = pt_chA A := by unfold pt_LA; rw [if_neg (by omega), if_neg (by omega), if_neg (by omega), if_pos hk]
                                    exact ov_retz (st := []) d_57_167 rfl (by omega) ⟨_, rfl, I74, (fun a ca => (fr85 a ca)), (Or.inr (Or.inr ⟨rfl, (pt_nt t m p), (by show (pt_is t m (pt_nt t m p) 59) = 1 ∧ p ≤ (pt_nt t m p) ∧ (pt_nt t m p) ≤ m ∧ (h73 3 1) = (h 3 1) ∧ (h73 3 2) = (h 3 2); omega), (Or.inr (Or.inr (Or.inr (Or.inr (Or.inr (Or.inr (Or.inl ⟨hk, by omega, rfl⟩))))))), y90_, (by rw [hA]; exact y91_)⟩))⟩
                            · omega
                          · skip
                            show ov_R u d ov_m57 130 [(0, ov_r 3)] [ov_i 1] z h (P_fReader_readLine_3_k3_1_58 F z h t m p A)
                            have f98 : pt_iw t m p (1920298611 : Int) = 1 ∧ pt_ty t m p = 2 ∧ pt_w256 t m p = (1920298611 : Int) := f40
                            clear f40
                            refine ov_ifeq (tgt := 142) d_57_130 (by decide) (by omega) (fun c99 => ?_) (fun c99 => ?_)
                            · omega
                            · skip
                              have hk : pt_lk t m p = 6 := by unfold pt_lk; rw [if_neg (by omega), if_neg (by omega), if_neg (by omega), if_neg (by omega), if_neg (by omega), if_neg (by omega), if_pos (by omega)]
                              refine ov_blk (ls2 := [(0, ov_r 3)]) (st2 := [ov_i 9, ov_i 0, ov_i 3, ov_r 3]) (pc2 := 138) b_57_133_4 rfl rfl ?_
                              refine ov_cV (as := [ov_i 3, ov_i 0, ov_i 9]) (st := []) (d2 := d - 1) d_57_138 lk_Reader_128 rfl (Nat.le_of_ble_eq_true rfl) (c := 6) (zb_3 I) (zs_3 I) ⟨by decide, rfl⟩ (by omega) (c_fReader_readSetting_3_k3_1_58 t m p A (d - 1) (by omega) U I (ov_kws hw (by decide +kernel)) 3 0 9 k0 (by omega) (by omega) (by omega) (by show 0 ≤ (3 : Int) ∧ (3 : Int) ≤ 3; omega) (by show 0 ≤ (0 : Int) ∧ (9 : Int) ≤ 30 ∧ ((3 : Int) = 3 → (9 : Int) ≤ 9); omega) (show h 2 = t from Eq.trans (show h 2 = h 2 from rfl) et) tc cr) ?_
                              rintro _ z101 h102 ⟨v100, rfl, I103, y104, y105⟩
                              have E106 : h102 2 = h 2 := Eq.trans (y104 2 (by decide)) (show h 2 = h 2 from rfl)
                              have E107 : h102 58 = h 58 := Eq.trans (y104 58 (by decide)) (show h 58 = h 58 from rfl)
                              have E108 : h102 59 = h 59 := Eq.trans (y104 59 (by decide)) (show h 59 = h 59 from rfl)
                              have E109 : h102 60 = h 60 := Eq.trans (y104 60 (by decide)) (show h 60 = h 60 from rfl)
                              have E110 : h102 61 = h 61 := Eq.trans (y104 61 (by decide)) (show h 61 = h 61 from rfl)
                              have E111 : h102 62 = h 62 := Eq.trans (y104 62 (by decide)) (show h 62 = h 62 from rfl)
                              have E112 : h102 63 = h 63 := Eq.trans (y104 63 (by decide)) (show h 63 = h 63 from rfl)
                              have E113 : h102 66 = h 66 := Eq.trans (y104 66 (by decide)) (show h 66 = h 66 from rfl)
                              have fr114 : ∀ a : Int, a ≠ 1 ∧ a ≠ 3 ∧ (a < 58 ∨ 64 < a) ∧ (a < 66 ∨ 68 < a) → h102 a = h a := fun a ca => Eq.trans (y104 a (by omega)) rfl
                              rcases y105 with ⟨rfl, f116⟩ | ⟨rfl, f117⟩ | ⟨rfl, f118, y119, y120⟩
                              · skip
                                show ov_R u d ov_m57 141 [(0, ov_r 3)] [ov_i 0] z101 h102 (P_fReader_readLine_3_k3_1_58 F z h t m p A)
                                have f121 : (h102 3 2) = (pt_stF t m (3 : Int) (0 : Int) (9 : Int) A p) ∧ 1 ≤ (pt_stF t m (3 : Int) (0 : Int) (9 : Int) A p) ∧ (h102 3 1) = (h 3 1) := f116
                                clear f116
                                have e115 : h102 3 1 = 58 := by omega
                                exact ov_retz (st := []) d_57_141 rfl (by omega) ⟨_, rfl, I103, (fun a ca => (fr114 a ca)), (Or.inl ⟨rfl, (pt_stF t m 3 0 9 A p), (pt_nt t m (pt_nt t m p)), (by show (h102 3 2) = (pt_stF t m 3 0 9 A p) ∧ 1 ≤ (pt_stF t m 3 0 9 A p) ∧ (h102 3 1) = (h 3 1); omega), (Or.inr (Or.inr (Or.inr (Or.inr (Or.inr (Or.inl ⟨hk, by omega, rfl⟩))))))⟩)⟩
                              · skip
                                show ov_R u d ov_m57 141 [(0, ov_r 3)] [ov_i 0] z101 h102 (P_fReader_readLine_3_k3_1_58 F z h t m p A)
                                have f122 : (pt_stF t m (3 : Int) (0 : Int) (9 : Int) A p) = 0 ∧ (pt_is t m (pt_nt t m (pt_nt t m p)) 59) = 0 ∧ (h102 3 2) = 1 + 16 * (pt_nt t m (pt_nt t m p)) ∧ 0 ≤ (pt_nt t m (pt_nt t m p)) ∧ (h102 3 1) = (h 3 1) := f117
                                clear f117
                                have e115 : h102 3 1 = 58 := by omega
                                exact ov_retz (st := []) d_57_141 rfl (by omega) ⟨_, rfl, I103, (fun a ca => (fr114 a ca)), (Or.inr (Or.inl ⟨rfl, (pt_nt t m (pt_nt t m p)), (by show (pt_is t m (pt_nt t m (pt_nt t m p)) 59) = 0 ∧ (h102 3 2) = 1 + 16 * (pt_nt t m (pt_nt t m p)) ∧ 0 ≤ (pt_nt t m (pt_nt t m p)) ∧ (h102 3 1) = (h 3 1); omega), (Or.inr (Or.inr (Or.inr (Or.inr (Or.inr (Or.inl ⟨hk, by omega, rfl⟩))))))⟩))⟩
                              · skip
                                show ov_R u d ov_m57 141 [(0, ov_r 3)] [ov_i 1] z101 h102 (P_fReader_readLine_3_k3_1_58 F z h t m p A)
                                have f123 : (pt_stF t m (3 : Int) (0 : Int) (9 : Int) A p) = 0 ∧ (pt_is t m (pt_nt t m (pt_nt t m p)) 59) = 1 ∧ (h102 3 1) = (h 3 1) ∧ (h102 3 2) = (h 3 2) := f118
                                clear f118
                                have e115 : h102 3 1 = 58 := by omega
                                have y119_ : pt_TC t m (h102 1) (pt_nt t m (pt_nt t m (pt_nt t m p))) := y119
                                have g124 := pt_TC_b y119_
                                have g125 := pt_nt_le (t := t) (n := m) (p := p) (by omega)
                                have g126 := pt_nt_le (t := t) (n := m) (p := (pt_nt t m p)) (by omega)
                                have g127 := pt_nt_le (t := t) (n := m) (p := (pt_nt t m (pt_nt t m p))) (by omega)
                                have y120_ : pt_CR t m (pt_stA t m (3 : Int) A p) (h102 58) (h102 59) (h102 60) (h102 61) (h102 62) (h102 63) (h102 64) (h102 66) := y120
                                have hA : pt_LA t m A p = pt_stA t m 3 A p := by unfold pt_LA; rw [if_neg (by omega), if_neg (by omega), if_neg (by omega), if_neg (by omega), hk]; rfl
                                exact ov_retz (st := []) d_57_141 rfl (by omega) ⟨_, rfl, I103, (fun a ca => (fr114 a ca)), (Or.inr (Or.inr ⟨rfl, (pt_nt t m (pt_nt t m p)), (by show (pt_is t m (pt_nt t m (pt_nt t m p)) 59) = 1 ∧ p ≤ (pt_nt t m (pt_nt t m p)) ∧ (pt_nt t m (pt_nt t m p)) ≤ m ∧ (h102 3 1) = (h 3 1) ∧ (h102 3 2) = (h 3 2); omega), (Or.inr (Or.inr (Or.inr (Or.inr (Or.inr (Or.inl ⟨hk, by omega, rfl⟩)))))), y119_, (by rw [hA]; exact y120_)⟩))⟩
                        · omega
                      · skip
                        show ov_R u d ov_m57 108 [(0, ov_r 3)] [ov_i 1] z h (P_fReader_readLine_3_k3_1_58 F z h t m p A)
                        have f128 : pt_iw t m p (1936486263 : Int) = 1 ∧ pt_ty t m p = 2 ∧ pt_w256 t m p = (1936486263 : Int) := f34
                        clear f34
                        refine ov_ifeq (tgt := 120) d_57_108 (by decide) (by omega) (fun c129 => ?_) (fun c129 => ?_)
                        · omega
                        · skip
                          have hk : pt_lk t m p = 5 := by unfold pt_lk; rw [if_neg (by omega), if_neg (by omega), if_neg (by omega), if_neg (by omega), if_neg (by omega), if_pos (by omega)]
                          refine ov_blk (ls2 := [(0, ov_r 3)]) (st2 := [ov_i 30, ov_i 1, ov_i 2, ov_r 3]) (pc2 := 116) b_57_111_4 rfl rfl ?_
                          refine ov_cV (as := [ov_i 2, ov_i 1, ov_i 30]) (st := []) (d2 := d - 1) d_57_116 lk_Reader_128 rfl (Nat.le_of_ble_eq_true rfl) (c := 6) (zb_3 I) (zs_3 I) ⟨by decide, rfl⟩ (by omega) (c_fReader_readSetting_3_k3_1_58 t m p A (d - 1) (by omega) U I (ov_kws hw (by decide +kernel)) 2 1 30 k0 (by omega) (by omega) (by omega) (by show 0 ≤ (2 : Int) ∧ (2 : Int) ≤ 3; omega) (by show 0 ≤ (1 : Int) ∧ (30 : Int) ≤ 30 ∧ ((2 : Int) = 3 → (30 : Int) ≤ 9); omega) (show h 2 = t from Eq.trans (show h 2 = h 2 from rfl) et) tc cr) ?_
                          rintro _ z131 h132 ⟨v130, rfl, I133, y134, y135⟩
                          have E136 : h132 2 = h 2 := Eq.trans (y134 2 (by decide)) (show h 2 = h 2 from rfl)
                          have E137 : h132 58 = h 58 := Eq.trans (y134 58 (by decide)) (show h 58 = h 58 from rfl)
                          have E138 : h132 59 = h 59 := Eq.trans (y134 59 (by decide)) (show h 59 = h 59 from rfl)
                          have E139 : h132 60 = h 60 := Eq.trans (y134 60 (by decide)) (show h 60 = h 60 from rfl)
                          have E140 : h132 61 = h 61 := Eq.trans (y134 61 (by decide)) (show h 61 = h 61 from rfl)
                          have E141 : h132 62 = h 62 := Eq.trans (y134 62 (by decide)) (show h 62 = h 62 from rfl)
                          have E142 : h132 63 = h 63 := Eq.trans (y134 63 (by decide)) (show h 63 = h 63 from rfl)
                          have E143 : h132 66 = h 66 := Eq.trans (y134 66 (by decide)) (show h 66 = h 66 from rfl)
                          have fr144 : ∀ a : Int, a ≠ 1 ∧ a ≠ 3 ∧ (a < 58 ∨ 64 < a) ∧ (a < 66 ∨ 68 < a) → h132 a = h a := fun a ca => Eq.trans (y134 a (by omega)) rfl
                          rcases y135 with ⟨rfl, f146⟩ | ⟨rfl, f147⟩ | ⟨rfl, f148, y149, y150⟩
                          · skip
                            show ov_R u d ov_m57 119 [(0, ov_r 3)] [ov_i 0] z131 h132 (P_fReader_readLine_3_k3_1_58 F z h t m p A)
                            have f151 : (h132 3 2) = (pt_stF t m (2 : Int) (1 : Int) (30 : Int) A p) ∧ 1 ≤ (pt_stF t m (2 : Int) (1 : Int) (30 : Int) A p) ∧ (h132 3 1) = (h 3 1) := f146
                            clear f146
                            have e145 : h132 3 1 = 58 := by omega
                            exact ov_retz (st := []) d_57_119 rfl (by omega) ⟨_, rfl, I133, (fun a ca => (fr144 a ca)), (Or.inl ⟨rfl, (pt_stF t m 2 1 30 A p), (pt_nt t m (pt_nt t m p)), (by show (h132 3 2) = (pt_stF t m 2 1 30 A p) ∧ 1 ≤ (pt_stF t m 2 1 30 A p) ∧ (h132 3 1) = (h 3 1); omega), (Or.inr (Or.inr (Or.inr (Or.inr (Or.inl ⟨by omega, by omega, (by rw [hk]; show _ = pt_stF t m 2 1 30 A p; omega), rfl⟩)))))⟩)⟩
                          · skip
                            show ov_R u d ov_m57 119 [(0, ov_r 3)] [ov_i 0] z131 h132 (P_fReader_readLine_3_k3_1_58 F z h t m p A)
                            have f152 : (pt_stF t m (2 : Int) (1 : Int) (30 : Int) A p) = 0 ∧ (pt_is t m (pt_nt t m (pt_nt t m p)) 59) = 0 ∧ (h132 3 2) = 1 + 16 * (pt_nt t m (pt_nt t m p)) ∧ 0 ≤ (pt_nt t m (pt_nt t m p)) ∧ (h132 3 1) = (h 3 1) := f147
                            clear f147
                            have e145 : h132 3 1 = 58 := by omega
                            exact ov_retz (st := []) d_57_119 rfl (by omega) ⟨_, rfl, I133, (fun a ca => (fr144 a ca)), (Or.inr (Or.inl ⟨rfl, (pt_nt t m (pt_nt t m p)), (by show (pt_is t m (pt_nt t m (pt_nt t m p)) 59) = 0 ∧ (h132 3 2) = 1 + 16 * (pt_nt t m (pt_nt t m p)) ∧ 0 ≤ (pt_nt t m (pt_nt t m p)) ∧ (h132 3 1) = (h 3 1); omega), (Or.inr (Or.inr (Or.inr (Or.inr (Or.inl ⟨by omega, by omega, (by rw [hk]; show _ = pt_stF t m 2 1 30 A p; omega), rfl⟩)))))⟩))⟩
                          · skip
                            show ov_R u d ov_m57 119 [(0, ov_r 3)] [ov_i 1] z131 h132 (P_fReader_readLine_3_k3_1_58 F z h t m p A)
                            have f153 : (pt_stF t m (2 : Int) (1 : Int) (30 : Int) A p) = 0 ∧ (pt_is t m (pt_nt t m (pt_nt t m p)) 59) = 1 ∧ (h132 3 1) = (h 3 1) ∧ (h132 3 2) = (h 3 2) := f148
                            clear f148
                            have e145 : h132 3 1 = 58 := by omega
                            have y149_ : pt_TC t m (h132 1) (pt_nt t m (pt_nt t m (pt_nt t m p))) := y149
                            have g154 := pt_TC_b y149_
                            have g155 := pt_nt_le (t := t) (n := m) (p := p) (by omega)
                            have g156 := pt_nt_le (t := t) (n := m) (p := (pt_nt t m p)) (by omega)
                            have g157 := pt_nt_le (t := t) (n := m) (p := (pt_nt t m (pt_nt t m p))) (by omega)
                            have y150_ : pt_CR t m (pt_stA t m (2 : Int) A p) (h132 58) (h132 59) (h132 60) (h132 61) (h132 62) (h132 63) (h132 64) (h132 66) := y150
                            have hA : pt_LA t m A p = pt_stA t m 2 A p := by unfold pt_LA; rw [if_neg (by omega), if_neg (by omega), if_neg (by omega), if_neg (by omega), hk]; rfl
                            exact ov_retz (st := []) d_57_119 rfl (by omega) ⟨_, rfl, I133, (fun a ca => (fr144 a ca)), (Or.inr (Or.inr ⟨rfl, (pt_nt t m (pt_nt t m p)), (by show (pt_is t m (pt_nt t m (pt_nt t m p)) 59) = 1 ∧ p ≤ (pt_nt t m (pt_nt t m p)) ∧ (pt_nt t m (pt_nt t m p)) ≤ m ∧ (h132 3 1) = (h 3 1) ∧ (h132 3 2) = (h 3 2); omega), (Or.inr (Or.inr (Or.inr (Or.inr (Or.inl ⟨by omega, by omega, (by rw [hk]; show _ = pt_stF t m 2 1 30 A p; omega), rfl⟩))))), y149_, (by rw [hA]; exact y150_)⟩))⟩
                    · omega
                  · skip
                    show ov_R u d ov_m57 86 [(0, ov_r 3)] [ov_i 1] z h (P_fReader_readLine_3_k3_1_58 F z h t m p A)
                    have f158 : pt_iw t m p (7501166 : Int) = 1 ∧ pt_ty t m p = 2 ∧ pt_w256 t m p = (7501166 : Int) := f28
                    clear f28
                    refine ov_ifeq (tgt := 98) d_57_86 (by decide) (by omega) (fun c159 => ?_) (fun c159 => ?_)
                    · omega
                    · skip
                      have hk : pt_lk t m p = 4 := by unfold pt_lk; rw [if_neg (by omega), if_neg (by omega), if_neg (by omega), if_neg (by omega), if_pos (by omega)]
                      refine ov_blk (ls2 := [(0, ov_r 3)]) (st2 := [ov_i 30, ov_i 1, ov_i 1, ov_r 3]) (pc2 := 94) b_57_89_4 rfl rfl ?_
                      refine ov_cV (as := [ov_i 1, ov_i 1, ov_i 30]) (st := []) (d2 := d - 1) d_57_94 lk_Reader_128 rfl (Nat.le_of_ble_eq_true rfl) (c := 6) (zb_3 I) (zs_3 I) ⟨by decide, rfl⟩ (by omega) (c_fReader_readSetting_3_k3_1_58 t m p A (d - 1) (by omega) U I (ov_kws hw (by decide +kernel)) 1 1 30 k0 (by omega) (by omega) (by omega) (by show 0 ≤ (1 : Int) ∧ (1 : Int) ≤ 3; omega) (by show 0 ≤ (1 : Int) ∧ (30 : Int) ≤ 30 ∧ ((1 : Int) = 3 → (30 : Int) ≤ 9); omega) (show h 2 = t from Eq.trans (show h 2 = h 2 from rfl) et) tc cr) ?_
                      rintro _ z161 h162 ⟨v160, rfl, I163, y164, y165⟩
                      have E166 : h162 2 = h 2 := Eq.trans (y164 2 (by decide)) (show h 2 = h 2 from rfl)
                      have E167 : h162 58 = h 58 := Eq.trans (y164 58 (by decide)) (show h 58 = h 58 from rfl)
                      have E168 : h162 59 = h 59 := Eq.trans (y164 59 (by decide)) (show h 59 = h 59 from rfl)
                      have E169 : h162 60 = h 60 := Eq.trans (y164 60 (by decide)) (show h 60 = h 60 from rfl)
                      have E170 : h162 61 = h 61 := Eq.trans (y164 61 (by decide)) (show h 61 = h 61 from rfl)
                      have E171 : h162 62 = h 62 := Eq.trans (y164 62 (by decide)) (show h 62 = h 62 from rfl)
                      have E172 : h162 63 = h 63 := Eq.trans (y164 63 (by decide)) (show h 63 = h 63 from rfl)
                      have E173 : h162 66 = h 66 := Eq.trans (y164 66 (by decide)) (show h 66 = h 66 from rfl)
                      have fr174 : ∀ a : Int, a ≠ 1 ∧ a ≠ 3 ∧ (a < 58 ∨ 64 < a) ∧ (a < 66 ∨ 68 < a) → h162 a = h a := fun a ca => Eq.trans (y164 a (by omega)) rfl
                      rcases y165 with ⟨rfl, f176⟩ | ⟨rfl, f177⟩ | ⟨rfl, f178, y179, y180⟩
                      · skip
                        show ov_R u d ov_m57 97 [(0, ov_r 3)] [ov_i 0] z161 h162 (P_fReader_readLine_3_k3_1_58 F z h t m p A)
                        have f181 : (h162 3 2) = (pt_stF t m (1 : Int) (1 : Int) (30 : Int) A p) ∧ 1 ≤ (pt_stF t m (1 : Int) (1 : Int) (30 : Int) A p) ∧ (h162 3 1) = (h 3 1) := f176
                        clear f176
                        have e175 : h162 3 1 = 58 := by omega
                        exact ov_retz (st := []) d_57_97 rfl (by omega) ⟨_, rfl, I163, (fun a ca => (fr174 a ca)), (Or.inl ⟨rfl, (pt_stF t m 1 1 30 A p), (pt_nt t m (pt_nt t m p)), (by show (h162 3 2) = (pt_stF t m 1 1 30 A p) ∧ 1 ≤ (pt_stF t m 1 1 30 A p) ∧ (h162 3 1) = (h 3 1); omega), (Or.inr (Or.inr (Or.inr (Or.inr (Or.inl ⟨by omega, by omega, (by rw [hk]; show _ = pt_stF t m 1 1 30 A p; omega), rfl⟩)))))⟩)⟩
                      · skip
                        show ov_R u d ov_m57 97 [(0, ov_r 3)] [ov_i 0] z161 h162 (P_fReader_readLine_3_k3_1_58 F z h t m p A)
                        have f182 : (pt_stF t m (1 : Int) (1 : Int) (30 : Int) A p) = 0 ∧ (pt_is t m (pt_nt t m (pt_nt t m p)) 59) = 0 ∧ (h162 3 2) = 1 + 16 * (pt_nt t m (pt_nt t m p)) ∧ 0 ≤ (pt_nt t m (pt_nt t m p)) ∧ (h162 3 1) = (h 3 1) := f177
                        clear f177
                        have e175 : h162 3 1 = 58 := by omega
                        exact ov_retz (st := []) d_57_97 rfl (by omega) ⟨_, rfl, I163, (fun a ca => (fr174 a ca)), (Or.inr (Or.inl ⟨rfl, (pt_nt t m (pt_nt t m p)), (by show (pt_is t m (pt_nt t m (pt_nt t m p)) 59) = 0 ∧ (h162 3 2) = 1 + 16 * (pt_nt t m (pt_nt t m p)) ∧ 0 ≤ (pt_nt t m (pt_nt t m p)) ∧ (h162 3 1) = (h 3 1); omega), (Or.inr (Or.inr (Or.inr (Or.inr (Or.inl ⟨by omega, by omega, (by rw [hk]; show _ = pt_stF t m 1 1 30 A p; omega), rfl⟩)))))⟩))⟩
                      · skip
                        show ov_R u d ov_m57 97 [(0, ov_r 3)] [ov_i 1] z161 h162 (P_fReader_readLine_3_k3_1_58 F z h t m p A)
                        have f183 : (pt_stF t m (1 : Int) (1 : Int) (30 : Int) A p) = 0 ∧ (pt_is t m (pt_nt t m (pt_nt t m p)) 59) = 1 ∧ (h162 3 1) = (h 3 1) ∧ (h162 3 2) = (h 3 2) := f178
                        clear f178
                        have e175 : h162 3 1 = 58 := by omega
                        have y179_ : pt_TC t m (h162 1) (pt_nt t m (pt_nt t m (pt_nt t m p))) := y179
                        have g184 := pt_TC_b y179_
                        have g185 := pt_nt_le (t := t) (n := m) (p := p) (by omega)
                        have g186 := pt_nt_le (t := t) (n := m) (p := (pt_nt t m p)) (by omega)
                        have g187 := pt_nt_le (t := t) (n := m) (p := (pt_nt t m (pt_nt t m p))) (by omega)
                        have y180_ : pt_CR t m (pt_stA t m (1 : Int) A p) (h162 58) (h162 59) (h162 60) (h162 61) (h162 62) (h162 63) (h162 64) (h162 66) := y180
                        have hA : pt_LA t m A p = pt_stA t m 1 A p := by unfold pt_LA; rw [if_neg (by omega), if_neg (by omega), if_neg (by omega), if_neg (by omega), hk]; rfl
                        exact ov_retz (st := []) d_57_97 rfl (by omega) ⟨_, rfl, I163, (fun a ca => (fr174 a ca)), (Or.inr (Or.inr ⟨rfl, (pt_nt t m (pt_nt t m p)), (by show (pt_is t m (pt_nt t m (pt_nt t m p)) 59) = 1 ∧ p ≤ (pt_nt t m (pt_nt t m p)) ∧ (pt_nt t m (pt_nt t m p)) ≤ m ∧ (h162 3 1) = (h 3 1) ∧ (h162 3 2) = (h 3 2); omega), (Or.inr (Or.inr (Or.inr (Or.inr (Or.inl ⟨by omega, by omega, (by rw [hk]; show _ = pt_stF t m 1 1 30 A p; omega), rfl⟩))))), y179_, (by rw [hA]; exact y180_)⟩))⟩
                · omega
              · skip
                show ov_R u d ov_m57 64 [(0, ov_r 3)] [ov_i 1] z h (P_fReader_readLine_3_k3_1_58 F z h t m p A)
                have f188 : pt_iw t m p (2002873451 : Int) = 1 ∧ pt_ty t m p = 2 ∧ pt_w256 t m p = (2002873451 : Int) := f22
                clear f22
                refine ov_ifeq (tgt := 76) d_57_64 (by decide) (by omega) (fun c189 => ?_) (fun c189 => ?_)
                · omega
                · skip
                  have hk : pt_lk t m p = 3 := by unfold pt_lk; rw [if_neg (by omega), if_neg (by omega), if_neg (by omega), if_pos (by omega)]
                  refine ov_blk (ls2 := [(0, ov_r 3)]) (st2 := [ov_i 30, ov_i 1, ov_i 0, ov_r 3]) (pc2 := 72) b_57_67_4 rfl rfl ?_
                  refine ov_cV (as := [ov_i 0, ov_i 1, ov_i 30]) (st := []) (d2 := d - 1) d_57_72 lk_Reader_128 rfl (Nat.le_of_ble_eq_true rfl) (c := 6) (zb_3 I) (zs_3 I) ⟨by decide, rfl⟩ (by omega) (c_fReader_readSetting_3_k3_1_58 t m p A (d - 1) (by omega) U I (ov_kws hw (by decide +kernel)) 0 1 30 k0 (by omega) (by omega) (by omega) (by show 0 ≤ (0 : Int) ∧ (0 : Int) ≤ 3; omega) (by show 0 ≤ (1 : Int) ∧ (30 : Int) ≤ 30 ∧ ((0 : Int) = 3 → (30 : Int) ≤ 9); omega) (show h 2 = t from Eq.trans (show h 2 = h 2 from rfl) et) tc cr) ?_
                  rintro _ z191 h192 ⟨v190, rfl, I193, y194, y195⟩
                  have E196 : h192 2 = h 2 := Eq.trans (y194 2 (by decide)) (show h 2 = h 2 from rfl)
                  have E197 : h192 58 = h 58 := Eq.trans (y194 58 (by decide)) (show h 58 = h 58 from rfl)
                  have E198 : h192 59 = h 59 := Eq.trans (y194 59 (by decide)) (show h 59 = h 59 from rfl)
                  have E199 : h192 60 = h 60 := Eq.trans (y194 60 (by decide)) (show h 60 = h 60 from rfl)
                  have E200 : h192 61 = h 61 := Eq.trans (y194 61 (by decide)) (show h 61 = h 61 from rfl)
                  have E201 : h192 62 = h 62 := Eq.trans (y194 62 (by decide)) (show h 62 = h 62 from rfl)
                  have E202 : h192 63 = h 63 := Eq.trans (y194 63 (by decide)) (show h 63 = h 63 from rfl)
                  have E203 : h192 66 = h 66 := Eq.trans (y194 66 (by decide)) (show h 66 = h 66 from rfl)
                  have fr204 : ∀ a : Int, a ≠ 1 ∧ a ≠ 3 ∧ (a < 58 ∨ 64 < a) ∧ (a < 66 ∨ 68 < a) → h192 a = h a := fun a ca => Eq.trans (y194 a (by omega)) rfl
                  rcases y195 with ⟨rfl, f206⟩ | ⟨rfl, f207⟩ | ⟨rfl, f208, y209, y210⟩
                  · skip
                    show ov_R u d ov_m57 75 [(0, ov_r 3)] [ov_i 0] z191 h192 (P_fReader_readLine_3_k3_1_58 F z h t m p A)
                    have f211 : (h192 3 2) = (pt_stF t m (0 : Int) (1 : Int) (30 : Int) A p) ∧ 1 ≤ (pt_stF t m (0 : Int) (1 : Int) (30 : Int) A p) ∧ (h192 3 1) = (h 3 1) := f206
                    clear f206
                    have e205 : h192 3 1 = 58 := by omega
                    exact ov_retz (st := []) d_57_75 rfl (by omega) ⟨_, rfl, I193, (fun a ca => (fr204 a ca)), (Or.inl ⟨rfl, (pt_stF t m 0 1 30 A p), (pt_nt t m (pt_nt t m p)), (by show (h192 3 2) = (pt_stF t m 0 1 30 A p) ∧ 1 ≤ (pt_stF t m 0 1 30 A p) ∧ (h192 3 1) = (h 3 1); omega), (Or.inr (Or.inr (Or.inr (Or.inr (Or.inl ⟨by omega, by omega, (by rw [hk]; show _ = pt_stF t m 0 1 30 A p; omega), rfl⟩)))))⟩)⟩
                  · skip
                    show ov_R u d ov_m57 75 [(0, ov_r 3)] [ov_i 0] z191 h192 (P_fReader_readLine_3_k3_1_58 F z h t m p A)
                    have f212 : (pt_stF t m (0 : Int) (1 : Int) (30 : Int) A p) = 0 ∧ (pt_is t m (pt_nt t m (pt_nt t m p)) 59) = 0 ∧ (h192 3 2) = 1 + 16 * (pt_nt t m (pt_nt t m p)) ∧ 0 ≤ (pt_nt t m (pt_nt t m p)) ∧ (h192 3 1) = (h 3 1) := f207
                    clear f207
                    have e205 : h192 3 1 = 58 := by omega
                    exact ov_retz (st := []) d_57_75 rfl (by omega) ⟨_, rfl, I193, (fun a ca => (fr204 a ca)), (Or.inr (Or.inl ⟨rfl, (pt_nt t m (pt_nt t m p)), (by show (pt_is t m (pt_nt t m (pt_nt t m p)) 59) = 0 ∧ (h192 3 2) = 1 + 16 * (pt_nt t m (pt_nt t m p)) ∧ 0 ≤ (pt_nt t m (pt_nt t m p)) ∧ (h192 3 1) = (h 3 1); omega), (Or.inr (Or.inr (Or.inr (Or.inr (Or.inl ⟨by omega, by omega, (by rw [hk]; show _ = pt_stF t m 0 1 30 A p; omega), rfl⟩)))))⟩))⟩
                  · skip
                    show ov_R u d ov_m57 75 [(0, ov_r 3)] [ov_i 1] z191 h192 (P_fReader_readLine_3_k3_1_58 F z h t m p A)
                    have f213 : (pt_stF t m (0 : Int) (1 : Int) (30 : Int) A p) = 0 ∧ (pt_is t m (pt_nt t m (pt_nt t m p)) 59) = 1 ∧ (h192 3 1) = (h 3 1) ∧ (h192 3 2) = (h 3 2) := f208
                    clear f208
                    have e205 : h192 3 1 = 58 := by omega
                    have y209_ : pt_TC t m (h192 1) (pt_nt t m (pt_nt t m (pt_nt t m p))) := y209
                    have g214 := pt_TC_b y209_
                    have g215 := pt_nt_le (t := t) (n := m) (p := p) (by omega)
                    have g216 := pt_nt_le (t := t) (n := m) (p := (pt_nt t m p)) (by omega)
                    have g217 := pt_nt_le (t := t) (n := m) (p := (pt_nt t m (pt_nt t m p))) (by omega)
                    have y210_ : pt_CR t m (pt_stA t m (0 : Int) A p) (h192 58) (h192 59) (h192 60) (h192 61) (h192 62) (h192 63) (h192 64) (h192 66) := y210
                    have hA : pt_LA t m A p = pt_stA t m 0 A p := by unfold pt_LA; rw [if_neg (by omega), if_neg (by omega), if_neg (by omega), if_neg (by omega), hk]; rfl
                    exact ov_retz (st := []) d_57_75 rfl (by omega) ⟨_, rfl, I193, (fun a ca => (fr204 a ca)), (Or.inr (Or.inr ⟨rfl, (pt_nt t m (pt_nt t m p)), (by show (pt_is t m (pt_nt t m (pt_nt t m p)) 59) = 1 ∧ p ≤ (pt_nt t m (pt_nt t m p)) ∧ (pt_nt t m (pt_nt t m p)) ≤ m ∧ (h192 3 1) = (h 3 1) ∧ (h192 3 2) = (h 3 2); omega), (Or.inr (Or.inr (Or.inr (Or.inr (Or.inl ⟨by omega, by omega, (by rw [hk]; show _ = pt_stF t m 0 1 30 A p; omega), rfl⟩))))), y209_, (by rw [hA]; exact y210_)⟩))⟩
            · omega
          · skip
            show ov_R u d ov_m57 46 [(0, ov_r 3)] [ov_i 1] z h (P_fReader_readLine_3_k3_1_58 F z h t m p A)
            have f218 : pt_iw t m p (1920298085 : Int) = 1 ∧ pt_ty t m p = 2 ∧ pt_w256 t m p = (1920298085 : Int) := f16
            clear f16
            refine ov_ifeq (tgt := 54) d_57_46 (by decide) (by omega) (fun c219 => ?_) (fun c219 => ?_)
            · omega
            · skip
              have hk : pt_lk t m p = 2 := by unfold pt_lk; rw [if_neg (by omega), if_neg (by omega), if_pos (by omega)]
              refine ov_blk (ls2 := [(0, ov_r 3)]) (st2 := [ov_r 3]) (pc2 := 50) b_57_49_1 rfl rfl ?_
              refine ov_cV (as := []) (st := []) (d2 := d - 1) d_57_50 lk_Reader_123 rfl (Nat.le_of_ble_eq_true rfl) (c := 6) (zb_3 I) (zs_3 I) ⟨by decide, rfl⟩ (by omega) (c_fReader_readRule_3_k3_1_58 t m p A (d - 1) (by omega) U I (ov_kws hw (by decide +kernel)) k0 (show h 2 = t from Eq.trans (show h 2 = h 2 from rfl) et) tc cr) ?_
              rintro _ z221 h222 ⟨v220, rfl, I223, y224, y225⟩
              have E226 : h222 2 = h 2 := Eq.trans (y224 2 (by decide)) (show h 2 = h 2 from rfl)
              have E227 : h222 59 = h 59 := Eq.trans (y224 59 (by decide)) (show h 59 = h 59 from rfl)
              have E228 : h222 60 = h 60 := Eq.trans (y224 60 (by decide)) (show h 60 = h 60 from rfl)
              have E229 : h222 61 = h 61 := Eq.trans (y224 61 (by decide)) (show h 61 = h 61 from rfl)
              have E230 : h222 62 = h 62 := Eq.trans (y224 62 (by decide)) (show h 62 = h 62 from rfl)
              have E231 : h222 63 = h 63 := Eq.trans (y224 63 (by decide)) (show h 63 = h 63 from rfl)
              have E232 : h222 64 = h 64 := Eq.trans (y224 64 (by decide)) (show h 64 = h 64 from rfl)
              have fr233 : ∀ a : Int, a ≠ 1 ∧ a ≠ 3 ∧ (a < 58 ∨ 64 < a) ∧ (a < 66 ∨ 68 < a) → h222 a = h a := fun a ca => Eq.trans (y224 a (by omega)) rfl
              rcases y225 with ⟨rfl, f235⟩ | ⟨rfl, w236, w237, f238, y239⟩ | ⟨rfl, w240, f241, y242⟩ | ⟨rfl, w243, f244, y245, y246, y247⟩
              · skip
                show ov_R u d ov_m57 53 [(0, ov_r 3)] [ov_i 0] z221 h222 (P_fReader_readLine_3_k3_1_58 F z h t m p A)
                have f248 : (h222 3 2) = (pt_ruF t m A p) ∧ 1 ≤ (pt_ruF t m A p) ∧ (h222 3 1) = (h 3 1) := f235
                clear f235
                have e234 : h222 3 1 = 58 := by omega
                exact ov_retz (st := []) d_57_53 rfl (by omega) ⟨_, rfl, I223, (fun a ca => (fr233 a ca)), (Or.inl ⟨rfl, (pt_ruF t m A p), p, (by show (h222 3 2) = (pt_ruF t m A p) ∧ 1 ≤ (pt_ruF t m A p) ∧ (h222 3 1) = (h 3 1); omega), (Or.inr (Or.inr (Or.inl ⟨hk, by omega, rfl, rfl⟩)))⟩)⟩
              · skip
                show ov_R u d ov_m57 53 [(0, ov_r 3)] [ov_i 0] z221 h222 (P_fReader_readLine_3_k3_1_58 F z h t m p A)
                have f249 : (pt_ruF t m A p) = 0 ∧ (h222 3 2) = w236 ∧ 1 ≤ w236 ∧ (h222 3 1) = (h 3 1) := f238
                clear f238
                have e234 : h222 3 1 = 58 := by omega
                have y239_ : pt_EV t m 6 0 (pt_nt t m (pt_nt t m p)) w236 w237 := y239
                exact ov_retz (st := []) d_57_53 rfl (by omega) ⟨_, rfl, I223, (fun a ca => (fr233 a ca)), (Or.inl ⟨rfl, w236, w237, (by show (h222 3 2) = w236 ∧ 1 ≤ w236 ∧ (h222 3 1) = (h 3 1); omega), (Or.inr (Or.inr (Or.inr (Or.inl ⟨hk, by omega, y239_⟩))))⟩)⟩
              · skip
                show ov_R u d ov_m57 53 [(0, ov_r 3)] [ov_i 0] z221 h222 (P_fReader_readLine_3_k3_1_58 F z h t m p A)
                have f250 : (pt_ruF t m A p) = 0 ∧ (pt_is t m w240 59) = 0 ∧ (h222 3 2) = 1 + 16 * w240 ∧ 0 ≤ w240 ∧ (h222 3 1) = (h 3 1) := f241
                clear f241
                have e234 : h222 3 1 = 58 := by omega
                have y242_ : pt_EV t m 6 0 (pt_nt t m (pt_nt t m p)) 0 w240 := y242
                exact ov_retz (st := []) d_57_53 rfl (by omega) ⟨_, rfl, I223, (fun a ca => (fr233 a ca)), (Or.inr (Or.inl ⟨rfl, w240, (by show (pt_is t m w240 59) = 0 ∧ (h222 3 2) = 1 + 16 * w240 ∧ 0 ≤ w240 ∧ (h222 3 1) = (h 3 1); omega), (Or.inr (Or.inr (Or.inr (Or.inl ⟨hk, by omega, y242_⟩))))⟩))⟩
              · skip
                show ov_R u d ov_m57 53 [(0, ov_r 3)] [ov_i 1] z221 h222 (P_fReader_readLine_3_k3_1_58 F z h t m p A)
                have f251 : (pt_ruF t m A p) = 0 ∧ (pt_is t m w243 59) = 1 ∧ p ≤ w243 ∧ w243 ≤ m ∧ (h222 3 1) = (h 3 1) ∧ (h222 3 2) = (h 3 2) := f244
                clear f244
                have e234 : h222 3 1 = 58 := by omega
                have y245_ : pt_EV t m 6 0 (pt_nt t m (pt_nt t m p)) 0 w243 := y245
                have y246_ : pt_TC t m (h222 1) (pt_nt t m w243) := y246
                have g252 := pt_TC_b y246_
                have g253 := pt_nt_le (t := t) (n := m) (p := w243) (by omega)
                have y247_ : pt_CR t m (pt_ruA t m A p) (h222 58) (h222 59) (h222 60) (h222 61) (h222 62) (h222 63) (h222 64) (h222 66) := y247
                have hA : pt_LA t m A p = pt_ruA t m A p := by unfold pt_LA; rw [if_neg (by omega), if_neg (by omega), if_pos hk]
                exact ov_retz (st := []) d_57_53 rfl (by omega) ⟨_, rfl, I223, (fun a ca => (fr233 a ca)), (Or.inr (Or.inr ⟨rfl, w243, (by show (pt_is t m w243 59) = 1 ∧ p ≤ w243 ∧ w243 ≤ m ∧ (h222 3 1) = (h 3 1) ∧ (h222 3 2) = (h 3 2); omega), (Or.inr (Or.inr (Or.inr (Or.inl ⟨hk, by omega, y245_⟩)))), y246_, (by rw [hA]; exact y247_)⟩))⟩
        · omega
      · skip
        show ov_R u d ov_m57 28 [(0, ov_r 3)] [ov_i 1] z h (P_fReader_readLine_3_k3_1_58 F z h t m p A)
        have f254 : pt_iw t m p (6447474 : Int) = 1 ∧ pt_ty t m p = 2 ∧ pt_w256 t m p = (6447474 : Int) := f10
        clear f10
        refine ov_ifeq (tgt := 36) d_57_28 (by decide) (by omega) (fun c255 => ?_) (fun c255 => ?_)
        · omega
        · skip
          have hk : pt_lk t m p = 1 := by unfold pt_lk; rw [if_neg (by omega), if_pos (by omega)]
          refine ov_blk (ls2 := [(0, ov_r 3)]) (st2 := [ov_r 3]) (pc2 := 32) b_57_31_1 rfl rfl ?_
          refine ov_cV (as := []) (st := []) (d2 := d - 1) d_57_32 lk_Reader_118 rfl (Nat.le_of_ble_eq_true rfl) (c := 6) (zb_3 I) (zs_3 I) ⟨by decide, rfl⟩ (by omega) (c_fReader_readBar_3_k3_1_58 t m p A (d - 1) (by omega) U I (ov_kws hw (by decide +kernel)) k0 (show h 2 = t from Eq.trans (show h 2 = h 2 from rfl) et) tc cr) ?_
          rintro _ z257 h258 ⟨v256, rfl, I259, y260, y261⟩
          have E262 : h258 2 = h 2 := Eq.trans (y260 2 (by decide)) (show h 2 = h 2 from rfl)
          have E263 : h258 58 = h 58 := Eq.trans (y260 58 (by decide)) (show h 58 = h 58 from rfl)
          have E264 : h258 59 = h 59 := Eq.trans (y260 59 (by decide)) (show h 59 = h 59 from rfl)
          have E265 : h258 60 = h 60 := Eq.trans (y260 60 (by decide)) (show h 60 = h 60 from rfl)
          have E266 : h258 61 = h 61 := Eq.trans (y260 61 (by decide)) (show h 61 = h 61 from rfl)
          have E267 : h258 62 = h 62 := Eq.trans (y260 62 (by decide)) (show h 62 = h 62 from rfl)
          have E268 : h258 64 = h 64 := Eq.trans (y260 64 (by decide)) (show h 64 = h 64 from rfl)
          have E269 : h258 66 = h 66 := Eq.trans (y260 66 (by decide)) (show h 66 = h 66 from rfl)
          have fr270 : ∀ a : Int, a ≠ 1 ∧ a ≠ 3 ∧ (a < 58 ∨ 64 < a) ∧ (a < 66 ∨ 68 < a) → h258 a = h a := fun a ca => Eq.trans (y260 a (by omega)) rfl
          rcases y261 with ⟨rfl, f272⟩ | ⟨rfl, f273⟩ | ⟨rfl, f274, y275, y276⟩
          · skip
            show ov_R u d ov_m57 35 [(0, ov_r 3)] [ov_i 0] z257 h258 (P_fReader_readLine_3_k3_1_58 F z h t m p A)
            have f277 : (h258 3 2) = (pt_brF t m A p) ∧ 1 ≤ (pt_brF t m A p) ∧ (h258 3 1) = (h 3 1) := f272
            clear f272
            have e271 : h258 3 1 = 58 := by omega
            exact ov_retz (st := []) d_57_35 rfl (by omega) ⟨_, rfl, I259, (fun a ca => (fr270 a ca)), (Or.inl ⟨rfl, (pt_brF t m A p), (pt_nt t m (pt_nt t m (pt_nt t m (pt_nt t m p)))), (by show (h258 3 2) = (pt_brF t m A p) ∧ 1 ≤ (pt_brF t m A p) ∧ (h258 3 1) = (h 3 1); omega), (Or.inr (Or.inl ⟨hk, by omega, rfl⟩))⟩)⟩
          · skip
            show ov_R u d ov_m57 35 [(0, ov_r 3)] [ov_i 0] z257 h258 (P_fReader_readLine_3_k3_1_58 F z h t m p A)
            have f278 : (pt_brF t m A p) = 0 ∧ (pt_is t m (pt_nt t m (pt_nt t m (pt_nt t m (pt_nt t m p)))) 59) = 0 ∧ (h258 3 2) = 1 + 16 * (pt_nt t m (pt_nt t m (pt_nt t m (pt_nt t m p)))) ∧ 0 ≤ (pt_nt t m (pt_nt t m (pt_nt t m (pt_nt t m p)))) ∧ (h258 3 1) = (h 3 1) := f273
            clear f273
            have e271 : h258 3 1 = 58 := by omega
            exact ov_retz (st := []) d_57_35 rfl (by omega) ⟨_, rfl, I259, (fun a ca => (fr270 a ca)), (Or.inr (Or.inl ⟨rfl, (pt_nt t m (pt_nt t m (pt_nt t m (pt_nt t m p)))), (by show (pt_is t m (pt_nt t m (pt_nt t m (pt_nt t m (pt_nt t m p)))) 59) = 0 ∧ (h258 3 2) = 1 + 16 * (pt_nt t m (pt_nt t m (pt_nt t m (pt_nt t m p)))) ∧ 0 ≤ (pt_nt t m (pt_nt t m (pt_nt t m (pt_nt t m p)))) ∧ (h258 3 1) = (h 3 1); omega), (Or.inr (Or.inl ⟨hk, by omega, rfl⟩))⟩))⟩
          · skip
            show ov_R u d ov_m57 35 [(0, ov_r 3)] [ov_i 1] z257 h258 (P_fReader_readLine_3_k3_1_58 F z h t m p A)
            have f279 : (pt_brF t m A p) = 0 ∧ (pt_is t m (pt_nt t m (pt_nt t m (pt_nt t m (pt_nt t m p)))) 59) = 1 ∧ (h258 3 1) = (h 3 1) ∧ (h258 3 2) = (h 3 2) := f274
            clear f274
            have e271 : h258 3 1 = 58 := by omega
            have y275_ : pt_TC t m (h258 1) (pt_nt t m (pt_nt t m (pt_nt t m (pt_nt t m (pt_nt t m p))))) := y275
            have g280 := pt_TC_b y275_
            have g281 := pt_nt_le (t := t) (n := m) (p := p) (by omega)
            have g282 := pt_nt_le (t := t) (n := m) (p := (pt_nt t m p)) (by omega)
            have g283 := pt_nt_le (t := t) (n := m) (p := (pt_nt t m (pt_nt t m p))) (by omega)
            have g284 := pt_nt_le (t := t) (n := m) (p := (pt_nt t m (pt_nt t m (pt_nt t m p)))) (by omega)
            have g285 := pt_nt_le (t := t) (n := m) (p := (pt_nt t m (pt_nt t m (pt_nt t m (pt_nt t m p))))) (by omega)
            have y276_ : pt_CR t m (pt_brA t m A p) (h258 58) (h258 59) (h258 60) (h258 61) (h258 62) (h258 63) (h258 64) (h258 66) := y276
            have hA : pt_LA t m A p = pt_brA t m A p := by unfold pt_LA; rw [if_neg (by omega), if_pos hk]
            exact ov_retz (st := []) d_57_35 rfl (by omega) ⟨_, rfl, I259, (fun a ca => (fr270 a ca)), (Or.inr (Or.inr ⟨rfl, (pt_nt t m (pt_nt t m (pt_nt t m (pt_nt t m p)))), (by show (pt_is t m (pt_nt t m (pt_nt t m (pt_nt t m (pt_nt t m p)))) 59) = 1 ∧ p ≤ (pt_nt t m (pt_nt t m (pt_nt t m (pt_nt t m p)))) ∧ (pt_nt t m (pt_nt t m (pt_nt t m (pt_nt t m p)))) ≤ m ∧ (h258 3 1) = (h 3 1) ∧ (h258 3 2) = (h 3 2); omega), (Or.inr (Or.inl ⟨hk, by omega, rfl⟩)), y275_, (by rw [hA]; exact y276_)⟩))⟩
    · omega
  · skip
    show ov_R u d ov_m57 10 [(0, ov_r 3)] [ov_i 1] z h (P_fReader_readLine_3_k3_1_58 F z h t m p A)
    have f286 : pt_iw t m p (465624852596 : Int) = 1 ∧ pt_ty t m p = 2 ∧ pt_w256 t m p = (465624852596 : Int) := f4
    clear f4
    refine ov_ifeq (tgt := 18) d_57_10 (by decide) (by omega) (fun c287 => ?_) (fun c287 => ?_)
    · omega
    · skip
      have hk : pt_lk t m p = 0 := by unfold pt_lk; rw [if_pos (by omega)]
      refine ov_blk (ls2 := [(0, ov_r 3)]) (st2 := [ov_r 3]) (pc2 := 14) b_57_13_1 rfl rfl ?_
      refine ov_cV (as := []) (st := []) (d2 := d - 1) d_57_14 lk_Reader_113 rfl (Nat.le_of_ble_eq_true rfl) (c := 6) (zb_3 I) (zs_3 I) ⟨by decide, rfl⟩ (by omega) (c_fReader_readLight_3_k3_1_58 t m p A (d - 1) (by omega) U I (ov_kws hw (by decide +kernel)) k0 (show h 2 = t from Eq.trans (show h 2 = h 2 from rfl) et) tc cr) ?_
      rintro _ z289 h290 ⟨v288, rfl, I291, y292, y293⟩
      have E294 : h290 2 = h 2 := Eq.trans (y292 2 (by decide)) (show h 2 = h 2 from rfl)
      have E295 : h290 63 = h 63 := Eq.trans (y292 63 (by decide)) (show h 63 = h 63 from rfl)
      have E296 : h290 64 = h 64 := Eq.trans (y292 64 (by decide)) (show h 64 = h 64 from rfl)
      have E297 : h290 66 = h 66 := Eq.trans (y292 66 (by decide)) (show h 66 = h 66 from rfl)
      have fr298 : ∀ a : Int, a ≠ 1 ∧ a ≠ 3 ∧ (a < 58 ∨ 64 < a) ∧ (a < 66 ∨ 68 < a) → h290 a = h a := fun a ca => Eq.trans (y292 a (by omega)) rfl
      rcases y293 with ⟨rfl, f300⟩ | ⟨rfl, f301⟩ | ⟨rfl, f302, y303, y304⟩
      · skip
        show ov_R u d ov_m57 17 [(0, ov_r 3)] [ov_i 0] z289 h290 (P_fReader_readLine_3_k3_1_58 F z h t m p A)
        have f305 : (h290 3 2) = (pt_liF t m A p) ∧ 1 ≤ (pt_liF t m A p) ∧ (h290 3 1) = (h 3 1) := f300
        clear f300
        have e299 : h290 3 1 = 58 := by omega
        exact ov_retz (st := []) d_57_17 rfl (by omega) ⟨_, rfl, I291, (fun a ca => (fr298 a ca)), (Or.inl ⟨rfl, (pt_liF t m A p), (pt_nt t m (pt_nt t m (pt_nt t m (pt_nt t m (pt_nt t m (pt_nt t m (pt_nt t m (pt_nt t m (pt_nt t m (pt_nt t m p)))))))))), (by show (h290 3 2) = (pt_liF t m A p) ∧ 1 ≤ (pt_liF t m A p) ∧ (h290 3 1) = (h 3 1); omega), (Or.inl ⟨hk, by omega, rfl⟩)⟩)⟩
      · skip
        show ov_R u d ov_m57 17 [(0, ov_r 3)] [ov_i 0] z289 h290 (P_fReader_readLine_3_k3_1_58 F z h t m p A)
        have f306 : (pt_liF t m A p) = 0 ∧ (pt_is t m (pt_nt t m (pt_nt t m (pt_nt t m (pt_nt t m (pt_nt t m (pt_nt t m (pt_nt t m (pt_nt t m (pt_nt t m (pt_nt t m p)))))))))) 59) = 0 ∧ (h290 3 2) = 1 + 16 * (pt_nt t m (pt_nt t m (pt_nt t m (pt_nt t m (pt_nt t m (pt_nt t m (pt_nt t m (pt_nt t m (pt_nt t m (pt_nt t m p)))))))))) ∧ 0 ≤ (pt_nt t m (pt_nt t m (pt_nt t m (pt_nt t m (pt_nt t m (pt_nt t m (pt_nt t m (pt_nt t m (pt_nt t m (pt_nt t m p)))))))))) ∧ (h290 3 1) = (h 3 1) := f301
        clear f301
        have e299 : h290 3 1 = 58 := by omega
        exact ov_retz (st := []) d_57_17 rfl (by omega) ⟨_, rfl, I291, (fun a ca => (fr298 a ca)), (Or.inr (Or.inl ⟨rfl, (pt_nt t m (pt_nt t m (pt_nt t m (pt_nt t m (pt_nt t m (pt_nt t m (pt_nt t m (pt_nt t m (pt_nt t m (pt_nt t m p)))))))))), (by show (pt_is t m (pt_nt t m (pt_nt t m (pt_nt t m (pt_nt t m (pt_nt t m (pt_nt t m (pt_nt t m (pt_nt t m (pt_nt t m (pt_nt t m p)))))))))) 59) = 0 ∧ (h290 3 2) = 1 + 16 * (pt_nt t m (pt_nt t m (pt_nt t m (pt_nt t m (pt_nt t m (pt_nt t m (pt_nt t m (pt_nt t m (pt_nt t m (pt_nt t m p)))))))))) ∧ 0 ≤ (pt_nt t m (pt_nt t m (pt_nt t m (pt_nt t m (pt_nt t m (pt_nt t m (pt_nt t m (pt_nt t m (pt_nt t m (pt_nt t m p)))))))))) ∧ (h290 3 1) = (h 3 1); omega), (Or.inl ⟨hk, by omega, rfl⟩)⟩))⟩
      · skip
        show ov_R u d ov_m57 17 [(0, ov_r 3)] [ov_i 1] z289 h290 (P_fReader_readLine_3_k3_1_58 F z h t m p A)
        have f307 : (pt_liF t m A p) = 0 ∧ (pt_is t m (pt_nt t m (pt_nt t m (pt_nt t m (pt_nt t m (pt_nt t m (pt_nt t m (pt_nt t m (pt_nt t m (pt_nt t m (pt_nt t m p)))))))))) 59) = 1 ∧ (h290 3 1) = (h 3 1) ∧ (h290 3 2) = (h 3 2) := f302
        clear f302
        have e299 : h290 3 1 = 58 := by omega
        have y303_ : pt_TC t m (h290 1) (pt_nt t m (pt_nt t m (pt_nt t m (pt_nt t m (pt_nt t m (pt_nt t m (pt_nt t m (pt_nt t m (pt_nt t m (pt_nt t m (pt_nt t m p))))))))))) := y303
        have g308 := pt_TC_b y303_
        have g309 := pt_nt_le (t := t) (n := m) (p := p) (by omega)
        have g310 := pt_nt_le (t := t) (n := m) (p := (pt_nt t m p)) (by omega)
        have g311 := pt_nt_le (t := t) (n := m) (p := (pt_nt t m (pt_nt t m p))) (by omega)
        have g312 := pt_nt_le (t := t) (n := m) (p := (pt_nt t m (pt_nt t m (pt_nt t m p)))) (by omega)
        have g313 := pt_nt_le (t := t) (n := m) (p := (pt_nt t m (pt_nt t m (pt_nt t m (pt_nt t m p))))) (by omega)
        have g314 := pt_nt_le (t := t) (n := m) (p := (pt_nt t m (pt_nt t m (pt_nt t m (pt_nt t m (pt_nt t m p)))))) (by omega)
        have g315 := pt_nt_le (t := t) (n := m) (p := (pt_nt t m (pt_nt t m (pt_nt t m (pt_nt t m (pt_nt t m (pt_nt t m p))))))) (by omega)
        have g316 := pt_nt_le (t := t) (n := m) (p := (pt_nt t m (pt_nt t m (pt_nt t m (pt_nt t m (pt_nt t m (pt_nt t m (pt_nt t m p)))))))) (by omega)
        have g317 := pt_nt_le (t := t) (n := m) (p := (pt_nt t m (pt_nt t m (pt_nt t m (pt_nt t m (pt_nt t m (pt_nt t m (pt_nt t m (pt_nt t m p))))))))) (by omega)
        have g318 := pt_nt_le (t := t) (n := m) (p := (pt_nt t m (pt_nt t m (pt_nt t m (pt_nt t m (pt_nt t m (pt_nt t m (pt_nt t m (pt_nt t m (pt_nt t m p)))))))))) (by omega)
        have g319 := pt_nt_le (t := t) (n := m) (p := (pt_nt t m (pt_nt t m (pt_nt t m (pt_nt t m (pt_nt t m (pt_nt t m (pt_nt t m (pt_nt t m (pt_nt t m (pt_nt t m p))))))))))) (by omega)
        have y304_ : pt_CR t m (pt_liA t m A p) (h290 58) (h290 59) (h290 60) (h290 61) (h290 62) (h290 63) (h290 64) (h290 66) := y304
        have hA : pt_LA t m A p = pt_liA t m A p := by unfold pt_LA; rw [if_pos hk]
        exact ov_retz (st := []) d_57_17 rfl (by omega) ⟨_, rfl, I291, (fun a ca => (fr298 a ca)), (Or.inr (Or.inr ⟨rfl, (pt_nt t m (pt_nt t m (pt_nt t m (pt_nt t m (pt_nt t m (pt_nt t m (pt_nt t m (pt_nt t m (pt_nt t m (pt_nt t m p)))))))))), (by show (pt_is t m (pt_nt t m (pt_nt t m (pt_nt t m (pt_nt t m (pt_nt t m (pt_nt t m (pt_nt t m (pt_nt t m (pt_nt t m (pt_nt t m p)))))))))) 59) = 1 ∧ p ≤ (pt_nt t m (pt_nt t m (pt_nt t m (pt_nt t m (pt_nt t m (pt_nt t m (pt_nt t m (pt_nt t m (pt_nt t m (pt_nt t m p)))))))))) ∧ (pt_nt t m (pt_nt t m (pt_nt t m (pt_nt t m (pt_nt t m (pt_nt t m (pt_nt t m (pt_nt t m (pt_nt t m (pt_nt t m p)))))))))) ≤ m ∧ (h290 3 1) = (h 3 1) ∧ (h290 3 2) = (h 3 2); omega), (Or.inl ⟨hk, by omega, rfl⟩), y303_, (by rw [hA]; exact y304_)⟩))⟩

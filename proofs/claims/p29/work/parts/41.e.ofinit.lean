/-! what the constructors leave is within the ranges -/
theorem ot_0 (k : Int) : ov_pr 0 k (ov_T0 0 k) := ⟨fun e => by subst e; decide +kernel, fun e => by subst e; decide +kernel, fun e => by subst e; decide +kernel, fun e => by subst e; decide +kernel, fun e => by subst e; decide +kernel, fun e => by subst e; decide +kernel, fun e => by subst e; decide +kernel, fun e => by subst e; decide +kernel, fun e => by subst e; decide +kernel, fun e => by subst e; decide +kernel, fun e => by subst e; decide +kernel, fun e => by subst e; decide +kernel, fun e => by subst e; decide +kernel, fun e => by subst e; decide +kernel⟩
theorem ot_1 (k : Int) : ov_pr 1 k (ov_T0 1 k) := ⟨fun e => by subst e; decide +kernel, fun e => by subst e; decide +kernel, fun e => by subst e; decide +kernel, fun e => by subst e; decide +kernel, fun e => by subst e; decide +kernel, fun e => by subst e; decide +kernel, fun e => by subst e; decide +kernel⟩
theorem ot_2 (k : Int) : ov_pr 2 k (ov_T0 2 k) := (by show iv_2 k 0; unfold iv_2; omega)
theorem ot_3 (k : Int) : ov_pr 3 k (ov_T0 3 k) := ⟨fun e => by subst e; decide +kernel, fun e => by subst e; decide +kernel, fun e => by subst e; decide +kernel, fun e => by subst e; decide +kernel⟩
theorem ot_4 (k : Int) : ov_pr 4 k (ov_T0 4 k) := ⟨fun e => by subst e; decide +kernel, fun e => by subst e; decide +kernel, fun e => by subst e; decide +kernel, fun e => by subst e; decide +kernel, fun e => by subst e; decide +kernel, fun e => by subst e; decide +kernel, fun e => by subst e; decide +kernel, fun e => by subst e; decide +kernel, fun e => by subst e; decide +kernel⟩
theorem ot_5 (k : Int) : ov_pr 5 k (ov_T0 5 k) := (by show iv_5 k 0; unfold iv_5; omega)
theorem ot_6 (k : Int) : ov_pr 6 k (ov_T0 6 k) := (by show iv_6 k 0; unfold iv_6; omega)
theorem ot_7 (k : Int) : ov_pr 7 k (ov_T0 7 k) := (by show iv_7 k 0; unfold iv_7; omega)
theorem ot_8 (k : Int) : ov_pr 8 k (ov_T0 8 k) := (by show iv_8 k 0; unfold iv_8; omega)
theorem ot_9 (k : Int) : ov_pr 9 k (ov_T0 9 k) := ⟨fun e => by subst e; decide +kernel, fun e => by subst e; decide +kernel, fun e => by subst e; decide +kernel, fun e => by subst e; decide +kernel, fun e => by subst e; decide +kernel, fun e => by subst e; decide +kernel⟩
theorem ot_10 (k : Int) : ov_pr 10 k (ov_T0 10 k) := (by show iv_10 k 0; unfold iv_10; omega)
theorem ot_11 (k : Int) : ov_pr 11 k (ov_T0 11 k) := (by show iv_11 k 0; unfold iv_11; omega)
theorem ot_12 (k : Int) : ov_pr 12 k (ov_T0 12 k) := (by show iv_12 k 0; unfold iv_12; omega)
theorem ot_13 (k : Int) : ov_pr 13 k (ov_T0 13 k) := trivial
theorem ot_14 (k : Int) : ov_pr 14 k (ov_T0 14 k) := (by show (k = 0 → ov_T0 14 k = 15) ∧ (k = 1 → ov_T0 14 k = 20) ∧ (k = 2 → ov_T0 14 k = 25) ∧ (k = 3 → ov_T0 14 k = 30); refine ⟨fun e => ?_, fun e => ?_, fun e => ?_, fun e => ?_⟩ <;> subst e <;> rfl)
theorem ot_15 (k : Int) : ov_pr 15 k (ov_T0 15 k) := ⟨fun e => by subst e; decide +kernel, fun e => by subst e; decide +kernel, fun e => by subst e; decide +kernel, fun e => by subst e; decide +kernel, fun e => by subst e; decide +kernel, fun e => by subst e; decide +kernel, fun e => by subst e; decide +kernel, fun e => by subst e; decide +kernel, fun e => by subst e; decide +kernel⟩
theorem ot_16 (k : Int) : ov_pr 16 k (ov_T0 16 k) := (by show iv_16 k 0; unfold iv_16; omega)
theorem ot_17 (k : Int) : ov_pr 17 k (ov_T0 17 k) := (by show iv_17 k 0; unfold iv_17; omega)
theorem ot_18 (k : Int) : ov_pr 18 k (ov_T0 18 k) := (by show iv_18 k 0; unfold iv_18; omega)
theorem ot_19 (k : Int) : ov_pr 19 k (ov_T0 19 k) := (by show iv_19 k 0; unfold iv_19; omega)
theorem ot_20 (k : Int) : ov_pr 20 k (ov_T0 20 k) := ⟨fun e => by subst e; decide +kernel, fun e => by subst e; decide +kernel, fun e => by subst e; decide +kernel, fun e => by subst e; decide +kernel, fun e => by subst e; decide +kernel, fun e => by subst e; decide +kernel, fun e => by subst e; decide +kernel, fun e => by subst e; decide +kernel, fun e => by subst e; decide +kernel⟩
theorem ot_21 (k : Int) : ov_pr 21 k (ov_T0 21 k) := (by show iv_21 k 0; unfold iv_21; omega)
theorem ot_22 (k : Int) : ov_pr 22 k (ov_T0 22 k) := (by show iv_22 k 0; unfold iv_22; omega)
theorem ot_23 (k : Int) : ov_pr 23 k (ov_T0 23 k) := (by show iv_23 k 0; unfold iv_23; omega)
theorem ot_24 (k : Int) : ov_pr 24 k (ov_T0 24 k) := (by show iv_24 k 0; unfold iv_24; omega)
theorem ot_25 (k : Int) : ov_pr 25 k (ov_T0 25 k) := ⟨fun e => by subst e; decide +kernel, fun e => by subst e; decide +kernel, fun e => by subst e; decide +kernel, fun e => by subst e; decide +kernel, fun e => by subst e; decide +kernel, fun e => by subst e; decide +kernel, fun e => by subst e; decide +kernel, fun e => by subst e; decide +kernel, fun e => by subst e; decide +kernel⟩
theorem ot_26 (k : Int) : ov_pr 26 k (ov_T0 26 k) := (by show iv_26 k 0; unfold iv_26; omega)
theorem ot_27 (k : Int) : ov_pr 27 k (ov_T0 27 k) := (by show iv_27 k 0; unfold iv_27; omega)
theorem ot_28 (k : Int) : ov_pr 28 k (ov_T0 28 k) := (by show iv_28 k 0; unfold iv_28; omega)
theorem ot_29 (k : Int) : ov_pr 29 k (ov_T0 29 k) := (by show iv_29 k 0; unfold iv_29; omega)
theorem ot_30 (k : Int) : ov_pr 30 k (ov_T0 30 k) := ⟨fun e => by subst e; decide +kernel, fun e => by subst e; decide +kernel, fun e => by subst e; decide +kernel, fun e => by subst e; decide +kernel, fun e => by subst e; decide +kernel, fun e => by subst e; decide +kernel, fun e => by subst e; decide +kernel, fun e => by subst e; decide +kernel, fun e => by subst e; decide +kernel⟩
theorem ot_31 (k : Int) : ov_pr 31 k (ov_T0 31 k) := (by show iv_31 k 0; unfold iv_31; omega)
theorem ot_32 (k : Int) : ov_pr 32 k (ov_T0 32 k) := (by show iv_32 k 0; unfold iv_32; omega)
theorem ot_33 (k : Int) : ov_pr 33 k (ov_T0 33 k) := (by show iv_33 k 0; unfold iv_33; omega)
theorem ot_34 (k : Int) : ov_pr 34 k (ov_T0 34 k) := (by show iv_34 k 0; unfold iv_34; omega)
theorem ot_35 (k : Int) : ov_pr 35 k (ov_T0 35 k) := (by show iv_35 k 0; unfold iv_35; omega)
theorem ot_36 (k : Int) : ov_pr 36 k (ov_T0 36 k) := ⟨fun e => by subst e; decide +kernel, fun e => by subst e; decide +kernel, fun e => by subst e; decide +kernel, fun e => by subst e; decide +kernel, fun e => by subst e; decide +kernel, fun e => by subst e; decide +kernel, fun e => by subst e; decide +kernel, fun e => by subst e; decide +kernel, fun e => by subst e; decide +kernel, fun e => by subst e; decide +kernel, fun e => by subst e; decide +kernel, fun e => by subst e; decide +kernel, fun e => by subst e; decide +kernel, fun e => by subst e; decide +kernel, fun e => by subst e; decide +kernel, fun e => by subst e; decide +kernel, fun e => by subst e; decide +kernel⟩
theorem ot_37 (k : Int) : ov_pr 37 k (ov_T0 37 k) := ⟨fun e => by subst e; decide +kernel, fun e => by subst e; decide +kernel⟩
theorem ot_38 (k : Int) : ov_pr 38 k (ov_T0 38 k) := trivial
theorem ot_39 (k : Int) : ov_pr 39 k (ov_T0 39 k) := (by show iv_39 k 0; unfold iv_39; omega)
theorem ot_40 (k : Int) : ov_pr 40 k (ov_T0 40 k) := ⟨fun e => by subst e; decide +kernel, fun e => by subst e; decide +kernel⟩
theorem ot_41 (k : Int) : ov_pr 41 k (ov_T0 41 k) := trivial
theorem ot_42 (k : Int) : ov_pr 42 k (ov_T0 42 k) := (by show iv_42 k 0; unfold iv_42; omega)
theorem ot_43 (k : Int) : ov_pr 43 k (ov_T0 43 k) := (by show iv_43 k 0; unfold iv_43; omega)
theorem ot_44 (k : Int) : ov_pr 44 k (ov_T0 44 k) := (by show iv_44 k 0; unfold iv_44; omega)
theorem ot_45 (k : Int) : ov_pr 45 k (ov_T0 45 k) := (by show iv_45 k 0; unfold iv_45; omega)
theorem ot_46 (k : Int) : ov_pr 46 k (ov_T0 46 k) := ⟨fun e => by subst e; decide +kernel, fun e => by subst e; decide +kernel, fun e => by subst e; decide +kernel, fun e => by subst e; decide +kernel, fun e => by subst e; decide +kernel⟩
theorem ot_47 (k : Int) : ov_pr 47 k (ov_T0 47 k) := (by show iv_47 k 0; unfold iv_47; omega)
theorem ot_48 (k : Int) : ov_pr 48 k (ov_T0 48 k) := (by show iv_48 k 0; unfold iv_48; omega)
theorem ot_49 (k : Int) : ov_pr 49 k (ov_T0 49 k) := ⟨fun e => by subst e; decide +kernel, fun e => by subst e; decide +kernel, fun e => by subst e; decide +kernel, fun e => by subst e; decide +kernel, fun e => by subst e; decide +kernel, fun e => by subst e; decide +kernel, fun e => by subst e; decide +kernel, fun e => by subst e; decide +kernel, fun e => by subst e; decide +kernel⟩
theorem ot_50 (k : Int) : ov_pr 50 k (ov_T0 50 k) := (by show iv_50 k 0; unfold iv_50; omega)
theorem ot_51 (k : Int) : ov_pr 51 k (ov_T0 51 k) := ⟨fun e => by subst e; decide +kernel, fun e => by subst e; decide +kernel⟩
theorem ot_52 (k : Int) : ov_pr 52 k (ov_T0 52 k) := trivial
theorem ot_53 (k : Int) : ov_pr 53 k (ov_T0 53 k) := (by show iv_53 k 0; unfold iv_53; omega)
theorem ot_54 (k : Int) : ov_pr 54 k (ov_T0 54 k) := ⟨fun e => by subst e; decide +kernel, fun e => by subst e; decide +kernel, fun e => by subst e; decide +kernel, fun e => by subst e; decide +kernel, fun e => by subst e; decide +kernel, fun e => by subst e; decide +kernel, fun e => by subst e; decide +kernel, fun e => by subst e; decide +kernel, fun e => by subst e; decide +kernel⟩
theorem ot_55 (k : Int) : ov_pr 55 k (ov_T0 55 k) := (by show iv_55 k 0; unfold iv_55; omega)
theorem ot_56 (k : Int) : ov_pr 56 k (ov_T0 56 k) := (by show iv_56 k 0; unfold iv_56; omega)
theorem ot_57 (k : Int) : ov_pr 57 k (ov_T0 57 k) := trivial
theorem ot_58 (k : Int) : ov_pr 58 k (ov_T0 58 k) := ⟨fun e => by subst e; decide +kernel, fun e => by subst e; decide +kernel, fun e => by subst e; decide +kernel, fun e => by subst e; decide +kernel, fun e => by subst e; decide +kernel, fun e => by subst e; decide +kernel, fun e => by subst e; decide +kernel, fun e => by subst e; decide +kernel, fun e => by subst e; decide +kernel, fun e => by subst e; decide +kernel, fun e => by subst e; decide +kernel, fun e => by subst e; decide +kernel, fun e => by subst e; decide +kernel, fun e => by subst e; decide +kernel, fun e => by subst e; decide +kernel, fun e => by subst e; decide +kernel, fun e => by subst e; decide +kernel, fun e => by subst e; decide +kernel⟩
theorem ot_59 (k : Int) : ov_pr 59 k (ov_T0 59 k) := (by show iv_59 k 0; unfold iv_59; omega)
theorem ot_60 (k : Int) : ov_pr 60 k (ov_T0 60 k) := (by show iv_60 k 0; unfold iv_60; omega)
theorem ot_61 (k : Int) : ov_pr 61 k (ov_T0 61 k) := (by show iv_61 k 0; unfold iv_61; omega)
theorem ot_62 (k : Int) : ov_pr 62 k (ov_T0 62 k) := (by show iv_62 k 0; unfold iv_62; omega)
theorem ot_63 (k : Int) : ov_pr 63 k (ov_T0 63 k) := (by show iv_63 k 0; unfold iv_63; omega)
theorem ot_64 (k : Int) : ov_pr 64 k (ov_T0 64 k) := (by show iv_64 k 0; unfold iv_64; omega)
theorem ot_65 (k : Int) : ov_pr 65 k (ov_T0 65 k) := (by show iv_65 k 0; unfold iv_65; omega)
theorem ot_66 (k : Int) : ov_pr 66 k (ov_T0 66 k) := trivial
theorem ot_67 (k : Int) : ov_pr 67 k (ov_T0 67 k) := (by show iv_67 k 0; unfold iv_67; omega)
theorem ot_68 (k : Int) : ov_pr 68 k (ov_T0 68 k) := (by show iv_68 k 0; unfold iv_68; omega)
theorem ot_69 (k : Int) : ov_pr 69 k (ov_T0 69 k) := (by show iv_69 k 0; unfold iv_69; omega)
theorem ot_70 (k : Int) : ov_pr 70 k (ov_T0 70 k) := ⟨fun e => by subst e; decide +kernel, fun e => by subst e; decide +kernel, fun e => by subst e; decide +kernel, fun e => by subst e; decide +kernel, fun e => by subst e; decide +kernel, fun e => by subst e; decide +kernel, fun e => by subst e; decide +kernel, fun e => by subst e; decide +kernel, fun e => by subst e; decide +kernel, fun e => by subst e; decide +kernel, fun e => by subst e; decide +kernel, fun e => by subst e; decide +kernel, fun e => by subst e; decide +kernel, fun e => by subst e; decide +kernel, fun e => by subst e; decide +kernel, fun e => by subst e; decide +kernel, fun e => by subst e; decide +kernel, fun e => by subst e; decide +kernel⟩
theorem ot_71 (k : Int) : ov_pr 71 k (ov_T0 71 k) := (by show iv_71 k 0; unfold iv_71; omega)
theorem ot_72 (k : Int) : ov_pr 72 k (ov_T0 72 k) := (by show iv_72 k 0; unfold iv_72; omega)
theorem ot_73 (k : Int) : ov_pr 73 k (ov_T0 73 k) := (by show iv_73 k 0; unfold iv_73; omega)
theorem ot_74 (k : Int) : ov_pr 74 k (ov_T0 74 k) := (by show iv_74 k 0; unfold iv_74; omega)
theorem ot_75 (k : Int) : ov_pr 75 k (ov_T0 75 k) := (by show iv_75 k 0; unfold iv_75; omega)
theorem ot_76 (k : Int) : ov_pr 76 k (ov_T0 76 k) := (by show iv_76 k 0; unfold iv_76; omega)
theorem ot_77 (k : Int) : ov_pr 77 k (ov_T0 77 k) := (by show iv_77 k 0; unfold iv_77; omega)
theorem ot_78 (k : Int) : ov_pr 78 k (ov_T0 78 k) := trivial
theorem ot_79 (k : Int) : ov_pr 79 k (ov_T0 79 k) := (by show iv_79 k 0; unfold iv_79; omega)
theorem ot_80 (k : Int) : ov_pr 80 k (ov_T0 80 k) := (by show iv_80 k 0; unfold iv_80; omega)
theorem ot_81 (k : Int) : ov_pr 81 k (ov_T0 81 k) := (by show iv_81 k 0; unfold iv_81; omega)
theorem ot_82 (k : Int) : ov_pr 82 k (ov_T0 82 k) := ⟨fun e => by subst e; decide +kernel, fun e => by subst e; decide +kernel, fun e => by subst e; decide +kernel, fun e => by subst e; decide +kernel, fun e => by subst e; decide +kernel⟩
theorem ot_83 (k : Int) : ov_pr 83 k (ov_T0 83 k) := (by show iv_83 k 0; unfold iv_83; omega)
theorem ot_84 (k : Int) : ov_pr 84 k (ov_T0 84 k) := (by show iv_84 k 0; unfold iv_84; omega)
theorem ot_85 (k : Int) : ov_pr 85 k (ov_T0 85 k) := (by show iv_85 k 0; unfold iv_85; omega)
theorem ot_86 (k : Int) : ov_pr 86 k (ov_T0 86 k) := ⟨fun e => by subst e; decide +kernel, fun e => by subst e; decide +kernel, fun e => by subst e; decide +kernel, fun e => by subst e; decide +kernel, fun e => by subst e; decide +kernel⟩
theorem ot_87 (k : Int) : ov_pr 87 k (ov_T0 87 k) := (by show iv_87 k 0; unfold iv_87; omega)
theorem ot_88 (k : Int) : ov_pr 88 k (ov_T0 88 k) := (by show iv_88 k 0; unfold iv_88; omega)
theorem ot_89 (k : Int) : ov_pr 89 k (ov_T0 89 k) := (by show iv_89 k 0; unfold iv_89; omega)
theorem ot_90 (k : Int) : ov_pr 90 k (ov_T0 90 k) := trivial
theorem ot_91 (k : Int) : ov_pr 91 k (ov_T0 91 k) := trivial
theorem ot_92 (k : Int) : ov_pr 92 k (ov_T0 92 k) := trivial
theorem ot_93 (k : Int) : ov_pr 93 k (ov_T0 93 k) := trivial
theorem ot_94 (k : Int) : ov_pr 94 k (ov_T0 94 k) := trivial
theorem ot_95 (k : Int) : ov_pr 95 k (ov_T0 95 k) := trivial
theorem ot_96 (k : Int) : ov_pr 96 k (ov_T0 96 k) := trivial
theorem ot_97 (k : Int) : ov_pr 97 k (ov_T0 97 k) := trivial
theorem ot_98 (k : Int) : ov_pr 98 k (ov_T0 98 k) := trivial
theorem ot_99 (k : Int) : ov_pr 99 k (ov_T0 99 k) := trivial
theorem ot_100 (k : Int) : ov_pr 100 k (ov_T0 100 k) := trivial
theorem ot_101 (k : Int) : ov_pr 101 k (ov_T0 101 k) := trivial
theorem ot_102 (k : Int) : ov_pr 102 k (ov_T0 102 k) := trivial
theorem ot_103 (k : Int) : ov_pr 103 k (ov_T0 103 k) := trivial
theorem ot_104 (k : Int) : ov_pr 104 k (ov_T0 104 k) := trivial
theorem ot_105 (k : Int) : ov_pr 105 k (ov_T0 105 k) := trivial
theorem ot_106 (k : Int) : ov_pr 106 k (ov_T0 106 k) := trivial
theorem ot_107 (k : Int) : ov_pr 107 k (ov_T0 107 k) := trivial
theorem ot_108 (k : Int) : ov_pr 108 k (ov_T0 108 k) := trivial
theorem ot_109 (k : Int) : ov_pr 109 k (ov_T0 109 k) := trivial
theorem ot_110 (k : Int) : ov_pr 110 k (ov_T0 110 k) := trivial
theorem ot_111 (k : Int) : ov_pr 111 k (ov_T0 111 k) := trivial
theorem ot_112 (k : Int) : ov_pr 112 k (ov_T0 112 k) := trivial
theorem ot_113 (k : Int) : ov_pr 113 k (ov_T0 113 k) := trivial
theorem ot_114 (k : Int) : ov_pr 114 k (ov_T0 114 k) := trivial
theorem ov_T0_ok : ∀ (a : Nat) (k : Int), a < 115 → ov_pr a k (ov_T0 (a : Int) k)
  | 0, k, _ => ot_0 k
  | 1, k, _ => ot_1 k
  | 2, k, _ => ot_2 k
  | 3, k, _ => ot_3 k
  | 4, k, _ => ot_4 k
  | 5, k, _ => ot_5 k
  | 6, k, _ => ot_6 k
  | 7, k, _ => ot_7 k
  | 8, k, _ => ot_8 k
  | 9, k, _ => ot_9 k
  | 10, k, _ => ot_10 k
  | 11, k, _ => ot_11 k
  | 12, k, _ => ot_12 k
  | 13, k, _ => ot_13 k
  | 14, k, _ => ot_14 k
  | 15, k, _ => ot_15 k
  | 16, k, _ => ot_16 k
  | 17, k, _ => ot_17 k
  | 18, k, _ => ot_18 k
  | 19, k, _ => ot_19 k
  | 20, k, _ => ot_20 k
  | 21, k, _ => ot_21 k
  | 22, k, _ => ot_22 k
  | 23, k, _ => ot_23 k
  | 24, k, _ => ot_24 k
  | 25, k, _ => ot_25 k
  | 26, k, _ => ot_26 k
  | 27, k, _ => ot_27 k
  | 28, k, _ => ot_28 k
  | 29, k, _ => ot_29 k
  | 30, k, _ => ot_30 k
  | 31, k, _ => ot_31 k
  | 32, k, _ => ot_32 k
  | 33, k, _ => ot_33 k
  | 34, k, _ => ot_34 k
  | 35, k, _ => ot_35 k
  | 36, k, _ => ot_36 k
  | 37, k, _ => ot_37 k
  | 38, k, _ => ot_38 k
  | 39, k, _ => ot_39 k
  | 40, k, _ => ot_40 k
  | 41, k, _ => ot_41 k
  | 42, k, _ => ot_42 k
  | 43, k, _ => ot_43 k
  | 44, k, _ => ot_44 k
  | 45, k, _ => ot_45 k
  | 46, k, _ => ot_46 k
  | 47, k, _ => ot_47 k
  | 48, k, _ => ot_48 k
  | 49, k, _ => ot_49 k
  | 50, k, _ => ot_50 k
  | 51, k, _ => ot_51 k
  | 52, k, _ => ot_52 k
  | 53, k, _ => ot_53 k
  | 54, k, _ => ot_54 k
  | 55, k, _ => ot_55 k
  | 56, k, _ => ot_56 k
  | 57, k, _ => ot_57 k
  | 58, k, _ => ot_58 k
  | 59, k, _ => ot_59 k
  | 60, k, _ => ot_60 k
  | 61, k, _ => ot_61 k
  | 62, k, _ => ot_62 k
  | 63, k, _ => ot_63 k
  | 64, k, _ => ot_64 k
  | 65, k, _ => ot_65 k
  | 66, k, _ => ot_66 k
  | 67, k, _ => ot_67 k
  | 68, k, _ => ot_68 k
  | 69, k, _ => ot_69 k
  | 70, k, _ => ot_70 k
  | 71, k, _ => ot_71 k
  | 72, k, _ => ot_72 k
  | 73, k, _ => ot_73 k
  | 74, k, _ => ot_74 k
  | 75, k, _ => ot_75 k
  | 76, k, _ => ot_76 k
  | 77, k, _ => ot_77 k
  | 78, k, _ => ot_78 k
  | 79, k, _ => ot_79 k
  | 80, k, _ => ot_80 k
  | 81, k, _ => ot_81 k
  | 82, k, _ => ot_82 k
  | 83, k, _ => ot_83 k
  | 84, k, _ => ot_84 k
  | 85, k, _ => ot_85 k
  | 86, k, _ => ot_86 k
  | 87, k, _ => ot_87 k
  | 88, k, _ => ot_88 k
  | 89, k, _ => ot_89 k
  | 90, k, _ => ot_90 k
  | 91, k, _ => ot_91 k
  | 92, k, _ => ot_92 k
  | 93, k, _ => ot_93 k
  | 94, k, _ => ot_94 k
  | 95, k, _ => ot_95 k
  | 96, k, _ => ot_96 k
  | 97, k, _ => ot_97 k
  | 98, k, _ => ot_98 k
  | 99, k, _ => ot_99 k
  | 100, k, _ => ot_100 k
  | 101, k, _ => ot_101 k
  | 102, k, _ => ot_102 k
  | 103, k, _ => ot_103 k
  | 104, k, _ => ot_104 k
  | 105, k, _ => ot_105 k
  | 106, k, _ => ot_106 k
  | 107, k, _ => ot_107 k
  | 108, k, _ => ot_108 k
  | 109, k, _ => ot_109 k
  | 110, k, _ => ot_110 k
  | 111, k, _ => ot_111 k
  | 112, k, _ => ot_112 k
  | 113, k, _ => ot_113 k
  | 114, k, _ => ot_114 k
  | n + 115, _, h => absurd h (by omega)
set_option maxHeartbeats 4000000 in
theorem i_OF_0 {u : ov_U} {z : ov_Z} {h : ov_H} (d : Nat) (hd : 20 ≤ d) (U : ov_cap u) (C : ov_SH 1 z) (hr : h 0 = ov_df 0) : ov_T u d ov_m0 [ov_r 0] z h (fun r0 z' h' => r0 = none ∧ ov_SH 90 z' ∧ (∀ b : Int, b < 0 → h' b = h b) ∧ (∀ b : Int, 0 ≤ b → b < 90 → (b < 58 ∨ 69 < b) → h' b = ov_T0 b) ∧ (∀ a k : Int, 58 ≤ a → a ≤ 69 → ov_pr a.toNat k (h' a k)) ∧ 0 ≤ h' 64 0 ∧ h' 58 0 = 1 ∧ h' 58 1 = 1) := by
  refine ov_en rfl (Nat.le_of_ble_eq_true rfl) ?_
  show ov_R u d ov_m0 0 [(0, ov_r 0)] [] z h _
  have B := ov_BL_ini (a := 0) C rfl (by decide) hr
  refine ov_blk (ls2 := [(0, ov_r 0)]) (st2 := [ov_r 0]) (pc2 := 1) b_0_0_1 rfl rfl ?_
  refine ov_obi d_0_1 oi_OF_3 (by decide) (by omega) (Nat.le_of_ble_eq_true rfl) ?_
  refine ov_blk (ls2 := [(0, ov_r 0)]) (st2 := [ov_r 0]) (pc2 := 5) b_0_4_1 rfl rfl ?_
  refine ov_Bnew U B (c := 8) (Ni := 1) (N := 1) d_0_5 nl_OF_9 rfl (by decide +kernel) (by decide +kernel) (by decide +kernel) (fun z1 h2 C3 k4 r5 => ?_)
  refine ov_blk (ls2 := [(0, ov_r 0)]) (st2 := [ov_r 1, ov_r 1, ov_r 0]) (pc2 := 9) b_0_8_1 rfl rfl ?_
  refine ov_cIN (as := []) (st := [ov_r 1, ov_r 0]) (d2 := d - 1) rfl d_0_9 lk_OF_11 rfl (Nat.le_of_ble_eq_true rfl) (by decide) (by omega) (i_Tape_1 (d - 1) (by omega) U C3 r5) ?_
  rintro _ z6 h7 ⟨rfl, C8, k9, t10⟩
  have B11 := ov_BL_sub B C8 (by decide) (fun b hb => by rw [k9 b (by omega)]; exact k4 b hb) (fun b h1 h2 => t10 b (by omega) (by omega))
  show ov_R u d ov_m0 12 [(0, ov_r 0)] [ov_r 1, ov_r 0] z6 h7 _
  refine ov_BputF B11 (n := 14) (x := 1) d_0_12 fl_OF_12 rfl rfl nk_2 rfl rfl rfl (fun h12 B13 => ?_)
  refine ov_blk (ls2 := [(0, ov_r 0)]) (st2 := [ov_r 0]) (pc2 := 16) b_0_15_1 rfl rfl ?_
  refine ov_Bnew U B13 (c := 6) (Ni := 3) (N := 3) d_0_16 nl_OF_16 rfl (by decide +kernel) (by decide +kernel) (by decide +kernel) (fun z14 h15 C16 k17 r18 => ?_)
  refine ov_blk (ls2 := [(0, ov_r 0)]) (st2 := [ov_r 0, ov_r 3, ov_r 3, ov_r 0]) (pc2 := 21) b_0_19_2 rfl rfl ?_
  refine ov_getf (v := ov_r 1) d_0_21 fl_OF_12 ⟨by decide, by rw [C16.1]; decide⟩ (C16.2.2 0 (by decide) (by decide)) (congrArg ov_r (show h15 0 0 = 1 from (by rw [k17 0 (by decide), B13.2.2.2.1]; rfl))) ?_
  refine ov_cI (as := [ov_r 1]) (st := [ov_r 3, ov_r 0]) (d2 := d - 1) rfl d_0_24 lk_OF_18 rfl (Nat.le_of_ble_eq_true rfl) (by decide) (by omega) (i_Reader_3 (d - 1) (by omega) U C16 r18) ?_
  rintro _ z19 h20 ⟨rfl, C21, k22, t23⟩
  have B24 := ov_BL_sub B13 C21 (by decide) (fun b hb => by rw [k22 b (by omega)]; exact k17 b hb) (fun b h1 h2 => t23 b (by omega) (by omega))
  show ov_R u d ov_m0 27 [(0, ov_r 0)] [ov_r 3, ov_r 0] z19 h20 _
  refine ov_BputF B24 (n := 14) (x := 3) d_0_27 fl_OF_21 rfl rfl nk_2 rfl rfl rfl (fun h25 B26 => ?_)
  refine ov_blk (ls2 := [(0, ov_r 0)]) (st2 := [ov_r 0]) (pc2 := 31) b_0_30_1 rfl rfl ?_
  refine ov_Bnew U B26 (c := 7) (Ni := 4) (N := 4) d_0_31 nl_OF_25 rfl (by decide +kernel) (by decide +kernel) (by decide +kernel) (fun z27 h28 C29 k30 r31 => ?_)
  refine ov_blk (ls2 := [(0, ov_r 0)]) (st2 := [ov_r 4, ov_r 4, ov_r 0]) (pc2 := 35) b_0_34_1 rfl rfl ?_
  refine ov_cIN (as := []) (st := [ov_r 4, ov_r 0]) (d2 := d - 1) rfl d_0_35 lk_OF_27 rfl (Nat.le_of_ble_eq_true rfl) (by decide) (by omega) (i_State_4 (d - 1) (by omega) U C29 r31) ?_
  rintro _ z32 h33 ⟨rfl, C34, k35, t36⟩
  have B37 := ov_BL_sub B26 C34 (by decide) (fun b hb => by rw [k35 b (by omega)]; exact k30 b hb) (fun b h1 h2 => t36 b (by omega) (by omega))
  show ov_R u d ov_m0 38 [(0, ov_r 0)] [ov_r 4, ov_r 0] z32 h33 _
  refine ov_BputF B37 (n := 14) (x := 4) d_0_38 fl_OF_28 rfl rfl nk_2 rfl rfl rfl (fun h38 B39 => ?_)
  refine ov_blk (ls2 := [(0, ov_r 0)]) (st2 := [ov_r 0]) (pc2 := 42) b_0_41_1 rfl rfl ?_
  refine ov_Bnew U B39 (c := 3) (Ni := 9) (N := 9) d_0_42 nl_OF_32 rfl (by decide +kernel) (by decide +kernel) (by decide +kernel) (fun z40 h41 C42 k43 r44 => ?_)
  refine ov_blk (ls2 := [(0, ov_r 0)]) (st2 := [ov_r 9, ov_r 9, ov_r 0]) (pc2 := 46) b_0_45_1 rfl rfl ?_
  refine ov_cIN (as := []) (st := [ov_r 9, ov_r 0]) (d2 := d - 1) rfl d_0_46 lk_OF_34 rfl (Nat.le_of_ble_eq_true rfl) (by decide) (by omega) (i_History_9 (d - 1) (by omega) U C42 r44) ?_
  rintro _ z45 h46 ⟨rfl, C47, k48, t49⟩
  have B50 := ov_BL_sub B39 C47 (by decide) (fun b hb => by rw [k48 b (by omega)]; exact k43 b hb) (fun b h1 h2 => t49 b (by omega) (by omega))
  show ov_R u d ov_m0 49 [(0, ov_r 0)] [ov_r 9, ov_r 0] z45 h46 _
  refine ov_BputF B50 (n := 14) (x := 9) d_0_49 fl_OF_35 rfl rfl nk_2 rfl rfl rfl (fun h51 B52 => ?_)
  refine ov_blk (ls2 := [(0, ov_r 0)]) (st2 := [ov_i 4, ov_r 0]) (pc2 := 54) b_0_52_2 rfl rfl ?_
  refine ov_BanwH U B52 (n := 4) (Ni := 14) (N := 14) d_0_54 nl_OF_25.2.1 (by decide) rfl (by decide +kernel) (by decide +kernel) (by decide +kernel) (fun z53 h54 B55 => ?_)
  refine ov_blk (ls2 := [(0, ov_r 0)]) (st2 := [ov_i 0, ov_r 14, ov_r 14, ov_r 0]) (pc2 := 59) b_0_57_2 rfl rfl ?_
  refine ov_Bnew U B55 (c := 7) (Ni := 15) (N := 15) d_0_59 nl_OF_25 rfl (by decide +kernel) (by decide +kernel) (by decide +kernel) (fun z56 h57 C58 k59 r60 => ?_)
  refine ov_blk (ls2 := [(0, ov_r 0)]) (st2 := [ov_r 15, ov_r 15, ov_i 0, ov_r 14, ov_r 14, ov_r 0]) (pc2 := 63) b_0_62_1 rfl rfl ?_
  refine ov_cIN (as := []) (st := [ov_r 15, ov_i 0, ov_r 14, ov_r 14, ov_r 0]) (d2 := d - 1) rfl d_0_63 lk_OF_27 rfl (Nat.le_of_ble_eq_true rfl) (by decide) (by omega) (i_State_15 (d - 1) (by omega) U C58 r60) ?_
  rintro _ z61 h62 ⟨rfl, C63, k64, t65⟩
  have B66 := ov_BL_sub B55 C63 (by decide) (fun b hb => by rw [k64 b (by omega)]; exact k59 b hb) (fun b h1 h2 => t65 b (by omega) (by omega))
  show ov_R u d ov_m0 66 [(0, ov_r 0)] [ov_r 15, ov_i 0, ov_r 14, ov_r 14, ov_r 0] z61 h62 _
  refine ov_Baas B66 (n := 4) (nx := 10) (i := 0) (x := 15) d_0_66 (by decide) rfl (by decide) (by decide) rfl (fun h67 B68 => ?_)
  refine ov_blk (ls2 := [(0, ov_r 0)]) (st2 := [ov_i 1, ov_r 14, ov_r 14, ov_r 0]) (pc2 := 69) b_0_67_2 rfl rfl ?_
  refine ov_Bnew U B68 (c := 7) (Ni := 20) (N := 20) d_0_69 nl_OF_25 rfl (by decide +kernel) (by decide +kernel) (by decide +kernel) (fun z69 h70 C71 k72 r73 => ?_)
  refine ov_blk (ls2 := [(0, ov_r 0)]) (st2 := [ov_r 20, ov_r 20, ov_i 1, ov_r 14, ov_r 14, ov_r 0]) (pc2 := 73) b_0_72_1 rfl rfl ?_
  refine ov_cIN (as := []) (st := [ov_r 20, ov_i 1, ov_r 14, ov_r 14, ov_r 0]) (d2 := d - 1) rfl d_0_73 lk_OF_27 rfl (Nat.le_of_ble_eq_true rfl) (by decide) (by omega) (i_State_20 (d - 1) (by omega) U C71 r73) ?_
  rintro _ z74 h75 ⟨rfl, C76, k77, t78⟩
  have B79 := ov_BL_sub B68 C76 (by decide) (fun b hb => by rw [k77 b (by omega)]; exact k72 b hb) (fun b h1 h2 => t78 b (by omega) (by omega))
  show ov_R u d ov_m0 76 [(0, ov_r 0)] [ov_r 20, ov_i 1, ov_r 14, ov_r 14, ov_r 0] z74 h75 _
  refine ov_Baas B79 (n := 4) (nx := 10) (i := 1) (x := 20) d_0_76 (by decide) rfl (by decide) (by decide) rfl (fun h80 B81 => ?_)
  refine ov_blk (ls2 := [(0, ov_r 0)]) (st2 := [ov_i 2, ov_r 14, ov_r 14, ov_r 0]) (pc2 := 79) b_0_77_2 rfl rfl ?_
  refine ov_Bnew U B81 (c := 7) (Ni := 25) (N := 25) d_0_79 nl_OF_25 rfl (by decide +kernel) (by decide +kernel) (by decide +kernel) (fun z82 h83 C84 k85 r86 => ?_)
  refine ov_blk (ls2 := [(0, ov_r 0)]) (st2 := [ov_r 25, ov_r 25, ov_i 2, ov_r 14, ov_r 14, ov_r 0]) (pc2 := 83) b_0_82_1 rfl rfl ?_
  refine ov_cIN (as := []) (st := [ov_r 25, ov_i 2, ov_r 14, ov_r 14, ov_r 0]) (d2 := d - 1) rfl d_0_83 lk_OF_27 rfl (Nat.le_of_ble_eq_true rfl) (by decide) (by omega) (i_State_25 (d - 1) (by omega) U C84 r86) ?_
  rintro _ z87 h88 ⟨rfl, C89, k90, t91⟩
  have B92 := ov_BL_sub B81 C89 (by decide) (fun b hb => by rw [k90 b (by omega)]; exact k85 b hb) (fun b h1 h2 => t91 b (by omega) (by omega))
  show ov_R u d ov_m0 86 [(0, ov_r 0)] [ov_r 25, ov_i 2, ov_r 14, ov_r 14, ov_r 0] z87 h88 _
  refine ov_Baas B92 (n := 4) (nx := 10) (i := 2) (x := 25) d_0_86 (by decide) rfl (by decide) (by decide) rfl (fun h93 B94 => ?_)
  refine ov_blk (ls2 := [(0, ov_r 0)]) (st2 := [ov_i 3, ov_r 14, ov_r 14, ov_r 0]) (pc2 := 89) b_0_87_2 rfl rfl ?_
  refine ov_Bnew U B94 (c := 7) (Ni := 30) (N := 30) d_0_89 nl_OF_25 rfl (by decide +kernel) (by decide +kernel) (by decide +kernel) (fun z95 h96 C97 k98 r99 => ?_)
  refine ov_blk (ls2 := [(0, ov_r 0)]) (st2 := [ov_r 30, ov_r 30, ov_i 3, ov_r 14, ov_r 14, ov_r 0]) (pc2 := 93) b_0_92_1 rfl rfl ?_
  refine ov_cIN (as := []) (st := [ov_r 30, ov_i 3, ov_r 14, ov_r 14, ov_r 0]) (d2 := d - 1) rfl d_0_93 lk_OF_27 rfl (Nat.le_of_ble_eq_true rfl) (by decide) (by omega) (i_State_30 (d - 1) (by omega) U C97 r99) ?_
  rintro _ z100 h101 ⟨rfl, C102, k103, t104⟩
  have B105 := ov_BL_sub B94 C102 (by decide) (fun b hb => by rw [k103 b (by omega)]; exact k98 b hb) (fun b h1 h2 => t104 b (by omega) (by omega))
  show ov_R u d ov_m0 96 [(0, ov_r 0)] [ov_r 30, ov_i 3, ov_r 14, ov_r 14, ov_r 0] z100 h101 _
  refine ov_Baas B105 (n := 4) (nx := 10) (i := 3) (x := 30) d_0_96 (by decide) rfl (by decide) (by decide) rfl (fun h106 B107 => ?_)
  refine ov_BputF B107 (n := 14) (x := 14) d_0_97 fl_OF_39 rfl rfl nk_2 rfl rfl rfl (fun h108 B109 => ?_)
  have B110 := ov_BL_close B109 (by decide) rfl
  refine ov_blk (ls2 := [(0, ov_r 0)]) (st2 := [ov_i 4, ov_r 0]) (pc2 := 102) b_0_100_2 rfl rfl ?_
  refine ov_Bnewz U B110 (n := 4) (Ni := 35) (N := 35) d_0_102 (by decide) rfl (by decide +kernel) (by decide +kernel) rfl (by decide +kernel) (fun z111 h112 B113 => ?_)
  refine ov_BputF B113 (n := 14) (x := 35) d_0_104 fl_OF_43 rfl rfl nk_2 rfl rfl rfl (fun h114 B115 => ?_)
  refine ov_blk (ls2 := [(0, ov_r 0)]) (st2 := [ov_r 0]) (pc2 := 108) b_0_107_1 rfl rfl ?_
  refine ov_Bnew U B115 (c := 2) (Ni := 36) (N := 36) d_0_108 nl_OF_47 rfl (by decide +kernel) (by decide +kernel) (by decide +kernel) (fun z116 h117 C118 k119 r120 => ?_)
  refine ov_blk (ls2 := [(0, ov_r 0)]) (st2 := [ov_r 36, ov_r 36, ov_r 0]) (pc2 := 112) b_0_111_1 rfl rfl ?_
  refine ov_cIN (as := []) (st := [ov_r 36, ov_r 0]) (d2 := d - 1) rfl d_0_112 lk_OF_49 rfl (Nat.le_of_ble_eq_true rfl) (by decide) (by omega) (i_Goers_36 (d - 1) (by omega) U C118 r120) ?_
  rintro _ z121 h122 ⟨rfl, C123, k124, t125⟩
  have B126 := ov_BL_sub B115 C123 (by decide) (fun b hb => by rw [k124 b (by omega)]; exact k119 b hb) (fun b h1 h2 => t125 b (by omega) (by omega))
  show ov_R u d ov_m0 115 [(0, ov_r 0)] [ov_r 36, ov_r 0] z121 h122 _
  refine ov_BputF B126 (n := 14) (x := 36) d_0_115 fl_OF_50 rfl rfl nk_2 rfl rfl rfl (fun h127 B128 => ?_)
  refine ov_blk (ls2 := [(0, ov_r 0)]) (st2 := [ov_r 0]) (pc2 := 119) b_0_118_1 rfl rfl ?_
  refine ov_Bnew U B128 (c := 12) (Ni := 46) (N := 46) d_0_119 nl_OF_54 rfl (by decide +kernel) (by decide +kernel) (by decide +kernel) (fun z129 h130 C131 k132 r133 => ?_)
  refine ov_blk (ls2 := [(0, ov_r 0)]) (st2 := [ov_r 46, ov_r 46, ov_r 0]) (pc2 := 123) b_0_122_1 rfl rfl ?_
  refine ov_cIN (as := []) (st := [ov_r 46, ov_r 0]) (d2 := d - 1) rfl d_0_123 lk_OF_56 rfl (Nat.le_of_ble_eq_true rfl) (by decide) (by omega) (i_Ways_46 (d - 1) (by omega) U C131 r133) ?_
  rintro _ z134 h135 ⟨rfl, C136, k137, t138⟩
  have B139 := ov_BL_sub B128 C136 (by decide) (fun b hb => by rw [k137 b (by omega)]; exact k132 b hb) (fun b h1 h2 => t138 b (by omega) (by omega))
  show ov_R u d ov_m0 126 [(0, ov_r 0)] [ov_r 46, ov_r 0] z134 h135 _
  refine ov_BputF B139 (n := 14) (x := 46) d_0_126 fl_OF_57 rfl rfl nk_2 rfl rfl rfl (fun h140 B141 => ?_)
  refine ov_blk (ls2 := [(0, ov_r 0)]) (st2 := [ov_r 0]) (pc2 := 130) b_0_129_1 rfl rfl ?_
  refine ov_Bnew U B141 (c := 5) (Ni := 49) (N := 49) d_0_130 nl_OF_61 rfl (by decide +kernel) (by decide +kernel) (by decide +kernel) (fun z142 h143 C144 k145 r146 => ?_)
  refine ov_blk (ls2 := [(0, ov_r 0)]) (st2 := [ov_r 49, ov_r 49, ov_r 0]) (pc2 := 134) b_0_133_1 rfl rfl ?_
  refine ov_cIN (as := []) (st := [ov_r 49, ov_r 0]) (d2 := d - 1) rfl d_0_134 lk_OF_63 rfl (Nat.le_of_ble_eq_true rfl) (by decide) (by omega) (i_Pace_49 (d - 1) (by omega) U C144 r146) ?_
  rintro _ z147 h148 ⟨rfl, C149, k150, t151⟩
  have B152 := ov_BL_sub B141 C149 (by decide) (fun b hb => by rw [k150 b (by omega)]; exact k145 b hb) (fun b h1 h2 => t151 b (by omega) (by omega))
  show ov_R u d ov_m0 137 [(0, ov_r 0)] [ov_r 49, ov_r 0] z147 h148 _
  refine ov_BputF B152 (n := 14) (x := 49) d_0_137 fl_OF_64 rfl rfl nk_2 rfl rfl rfl (fun h153 B154 => ?_)
  refine ov_blk (ls2 := [(0, ov_r 0)]) (st2 := [ov_r 0]) (pc2 := 141) b_0_140_1 rfl rfl ?_
  refine ov_Bnew U B154 (c := 11) (Ni := 54) (N := 54) d_0_141 nl_OF_68 rfl (by decide +kernel) (by decide +kernel) (by decide +kernel) (fun z155 h156 C157 k158 r159 => ?_)
  refine ov_blk (ls2 := [(0, ov_r 0)]) (st2 := [ov_r 54, ov_r 54, ov_r 0]) (pc2 := 145) b_0_144_1 rfl rfl ?_
  refine ov_cIN (as := []) (st := [ov_r 54, ov_r 0]) (d2 := d - 1) rfl d_0_145 lk_OF_70 rfl (Nat.le_of_ble_eq_true rfl) (by decide) (by omega) (i_Wave_54 (d - 1) (by omega) U C157 r159) ?_
  rintro _ z160 h161 ⟨rfl, C162, k163, t164⟩
  have B165 := ov_BL_sub B154 C162 (by decide) (fun b hb => by rw [k163 b (by omega)]; exact k158 b hb) (fun b h1 h2 => t164 b (by omega) (by omega))
  show ov_R u d ov_m0 148 [(0, ov_r 0)] [ov_r 54, ov_r 0] z160 h161 _
  refine ov_BputF B165 (n := 14) (x := 54) d_0_148 fl_OF_71 rfl rfl nk_2 rfl rfl rfl (fun h166 B167 => ?_)
  refine ov_blk (ls2 := [(0, ov_r 0)]) (st2 := [ov_r 0]) (pc2 := 152) b_0_151_1 rfl rfl ?_
  refine ov_Bnew U B167 (c := 9) (Ni := 58) (N := 58) d_0_152 nl_OF_75 rfl (by decide +kernel) (by decide +kernel) (by decide +kernel) (fun z168 h169 C170 k171 r172 => ?_)
  refine ov_blk (ls2 := [(0, ov_r 0)]) (st2 := [ov_r 58, ov_r 58, ov_r 0]) (pc2 := 156) b_0_155_1 rfl rfl ?_
  refine ov_cIN (as := []) (st := [ov_r 58, ov_r 0]) (d2 := d - 1) rfl d_0_156 lk_OF_77 rfl (Nat.le_of_ble_eq_true rfl) (by decide) (by omega) (i_Town_58 (d - 1) (by omega) U C170 r172) ?_
  rintro _ z173 h174 ⟨rfl, C175, k176, t177⟩
  have B178 := ov_BL_sub B167 C175 (by decide) (fun b hb => by rw [k176 b (by omega)]; exact k171 b hb) (fun b h1 h2 => t177 b (by omega) (by omega))
  show ov_R u d ov_m0 159 [(0, ov_r 0)] [ov_r 58, ov_r 0] z173 h174 _
  refine ov_Bput B178 (n := 14) (x := 58) d_0_159 fl_OF_78 rfl rfl nk_2 rfl (fun h179 B180 => ?_)
  refine ov_blk (ls2 := [(0, ov_r 0)]) (st2 := [ov_r 0]) (pc2 := 163) b_0_162_1 rfl rfl ?_
  refine ov_Bnew U B180 (c := 9) (Ni := 70) (N := 70) d_0_163 nl_OF_75 rfl (by decide +kernel) (by decide +kernel) (by decide +kernel) (fun z181 h182 C183 k184 r185 => ?_)
  refine ov_blk (ls2 := [(0, ov_r 0)]) (st2 := [ov_r 70, ov_r 70, ov_r 0]) (pc2 := 167) b_0_166_1 rfl rfl ?_
  refine ov_cIN (as := []) (st := [ov_r 70, ov_r 0]) (d2 := d - 1) rfl d_0_167 lk_OF_77 rfl (Nat.le_of_ble_eq_true rfl) (by decide) (by omega) (i_Town_70 (d - 1) (by omega) U C183 r185) ?_
  rintro _ z186 h187 ⟨rfl, C188, k189, t190⟩
  have B191 := ov_BL_sub B180 C188 (by decide) (fun b hb => by rw [k189 b (by omega)]; exact k184 b hb) (fun b h1 h2 => t190 b (by omega) (by omega))
  show ov_R u d ov_m0 170 [(0, ov_r 0)] [ov_r 70, ov_r 0] z186 h187 _
  refine ov_Bput B191 (n := 14) (x := 70) d_0_170 fl_OF_82 rfl rfl nk_2 rfl (fun h192 B193 => ?_)
  refine ov_blk (ls2 := [(0, ov_r 0)]) (st2 := [ov_r 0]) (pc2 := 174) b_0_173_1 rfl rfl ?_
  refine ov_Bnew U B193 (c := 10) (Ni := 82) (N := 82) d_0_174 nl_OF_85 rfl (by decide +kernel) (by decide +kernel) (by decide +kernel) (fun z194 h195 C196 k197 r198 => ?_)
  refine ov_blk (ls2 := [(0, ov_r 0)]) (st2 := [ov_r 82, ov_r 82, ov_r 0]) (pc2 := 178) b_0_177_1 rfl rfl ?_
  refine ov_cIN (as := []) (st := [ov_r 82, ov_r 0]) (d2 := d - 1) rfl d_0_178 lk_OF_87 rfl (Nat.le_of_ble_eq_true rfl) (by decide) (by omega) (i_Walk_82 (d - 1) (by omega) U C196 r198) ?_
  rintro _ z199 h200 ⟨rfl, C201, k202, t203⟩
  have B204 := ov_BL_sub B193 C201 (by decide) (fun b hb => by rw [k202 b (by omega)]; exact k197 b hb) (fun b h1 h2 => t203 b (by omega) (by omega))
  show ov_R u d ov_m0 181 [(0, ov_r 0)] [ov_r 82, ov_r 0] z199 h200 _
  refine ov_Bput B204 (n := 14) (x := 82) d_0_181 fl_OF_88 rfl rfl nk_2 rfl (fun h205 B206 => ?_)
  refine ov_blk (ls2 := [(0, ov_r 0)]) (st2 := [ov_r 0]) (pc2 := 185) b_0_184_1 rfl rfl ?_
  refine ov_Bnew U B206 (c := 10) (Ni := 86) (N := 86) d_0_185 nl_OF_85 rfl (by decide +kernel) (by decide +kernel) (by decide +kernel) (fun z207 h208 C209 k210 r211 => ?_)
  refine ov_blk (ls2 := [(0, ov_r 0)]) (st2 := [ov_r 86, ov_r 86, ov_r 0]) (pc2 := 189) b_0_188_1 rfl rfl ?_
  refine ov_cIN (as := []) (st := [ov_r 86, ov_r 0]) (d2 := d - 1) rfl d_0_189 lk_OF_87 rfl (Nat.le_of_ble_eq_true rfl) (by decide) (by omega) (i_Walk_86 (d - 1) (by omega) U C209 r211) ?_
  rintro _ z212 h213 ⟨rfl, C214, k215, t216⟩
  have B217 := ov_BL_sub B206 C214 (by decide) (fun b hb => by rw [k215 b (by omega)]; exact k210 b hb) (fun b h1 h2 => t216 b (by omega) (by omega))
  show ov_R u d ov_m0 192 [(0, ov_r 0)] [ov_r 86, ov_r 0] z212 h213 _
  refine ov_Bput B217 (n := 14) (x := 86) d_0_192 fl_OF_92 rfl rfl nk_2 rfl (fun h218 B219 => ?_)
  have Y0 : ov_Y (h218, z212) z212 h218 := ⟨rfl, ⟨by rw [B219.1.1]; decide, fun a h0 h1 => B219.1.2.2 a (by omega) (by omega)⟩, fun a k h0 h1 => by
    rw [B219.2.2.1 a (by omega) (by omega) (by omega)]
    have q := ov_T0_ok a.toNat k (by omega)
    rw [Int.toNat_of_nonneg (by omega)] at q
    exact q, fun _ _ => rfl⟩
  refine ov_blk (ls2 := [(0, ov_r 0)]) (st2 := [ov_r 0]) (pc2 := 196) b_0_195_1 rfl rfl ?_
  refine ov_getf (v := ov_r 58) d_0_196 fl_OF_78 ⟨by decide, by rw [B219.1.1]; decide⟩ (B219.1.2.2 0 (by decide) (by decide)) (congrArg ov_r (show h218 0 10 = 58 from (by rw [B219.2.2.2.1]; rfl))) ?_
  refine ov_cV (as := []) (st := []) (d2 := d - 1) d_0_199 lk_OF_95 rfl (Nat.le_of_ble_eq_true rfl) (c := 9) (yb_58 Y0) (ys_58 Y0) ⟨by decide, rfl⟩ (by omega) (cy_Town_clear_58 (d - 1) (by omega) U Y0) ?_
  rintro _ z7 h7 ⟨rfl, Y7, f7⟩
  have g7 : h7 58 0 = 1 ∧ h7 58 1 = 1 := f7
  obtain rfl : z7 = z212 := Y7.1
  have e7 : h7 0 = h218 0 := Y7.2.2.2 0 (Or.inl (by decide))
  show ov_R u d ov_m0 202 [(0, ov_r 0)] [] _ h7 _
  refine ov_blk (ls2 := [(0, ov_r 0)]) (st2 := [ov_r 0]) (pc2 := 203) b_0_202_1 rfl rfl ?_
  refine ov_getf (v := ov_r 58) d_0_203 fl_OF_78 ⟨by decide, by rw [B219.1.1]; decide⟩ (B219.1.2.2 0 (by decide) (by decide)) (congrArg ov_r (show h7 0 10 = 58 from (by rw [e7, B219.2.2.2.1]; rfl))) ?_
  refine ov_cV (as := []) (st := []) (d2 := d - 1) d_0_206 lk_OF_98 rfl (Nat.le_of_ble_eq_true rfl) (c := 9) (yb_58 Y7) (ys_58 Y7) ⟨by decide, rfl⟩ (by omega) (cy_Town_complete_58 (d - 1) (by omega) U Y7) ?_
  rintro _ z8 h8 ⟨rfl, Y8, f8⟩
  have g8 : 0 ≤ h8 64 0 ∧ h8 58 0 = h7 58 0 ∧ h8 58 1 = h7 58 1 := f8
  obtain rfl : z8 = _ := Y8.1
  show ov_R u d ov_m0 209 [(0, ov_r 0)] [] _ h8 _
  refine ov_retv (st := []) d_0_209 rfl ⟨rfl, B219.1, fun b hb => by rw [Y8.2.2.2 b (Or.inl (by omega))]; exact B219.2.1 b hb, fun b h0 h1 h2 => ?_, Y8.2.2.1, g8.1, by omega, by omega⟩
  show h8 b = ov_T0 b
  rw [Y8.2.2.2 b h2]
  show h218 b = ov_T0 b
  by_cases eb : b = 0
  · rw [eb, B219.2.2.2.1]
    rfl
  · exact B219.2.2.1 b (by omega) h1 (by omega)

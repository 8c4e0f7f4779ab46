/-! the heap behind both constructors: 115 cells of 434707 slots; what each cell may hold -/
def ov_sht : List (Nat × Nat) := [(5, 14), (13, 8), (2, 1000), (11, 4), (12, 10), (0, 10), (0, 10), (0, 8), (0, 8), (8, 6), (0, 16), (0, 16), (0, 16), (1, 16), (4, 4), (12, 10), (0, 10), (0, 10), (0, 8), (0, 8), (12, 10), (0, 10), (0, 10), (0, 8), (0, 8), (12, 10), (0, 10), (0, 10), (0, 8), (0, 8), (12, 10), (0, 10), (0, 10), (0, 8), (0, 8), (3, 4), (7, 18), (9, 3), (1, 0), (0, 54), (9, 3), (1, 0), (0, 54), (0, 54), (0, 54), (0, 54), (17, 7), (0, 54), (0, 1404), (10, 9), (0, 13), (9, 3), (1, 0), (0, 54), (16, 9), (0, 4), (0, 4), (1, 4), (14, 18), (0, 54), (0, 54), (0, 54), (0, 54), (0, 54), (0, 4), (0, 54), (1, 4), (0, 4), (0, 1000), (0, 64), (14, 18), (0, 54), (0, 54), (0, 54), (0, 54), (0, 54), (0, 4), (0, 54), (1, 4), (0, 4), (0, 1000), (0, 64), (15, 5), (0, 13), (0, 13), (0, 13), (15, 5), (0, 13), (0, 13), (0, 13), (6, 48), (0, 1000), (0, 1002), (0, 1002), (1, 1002), (1, 22), (0, 680), (0, 2200), (0, 2200), (1, 4), (0, 60), (0, 4), (0, 1100), (0, 2520), (3, 4), (0, 64800), (0, 64800), (0, 64800), (0, 64800), (0, 156000), (1, 240), (1, 240), (0, 4), (0, 4), (0, 54)]
def ov_sh0 (a : Int) : Nat × Nat := ov_sht.getD a.toNat (0, 0)
def iv_0 (k x : Int) : Prop := (k = 0 → x = 1) ∧ (k = 1 → x = 3) ∧ (k = 2 → x = 4) ∧ (k = 3 → x = 9) ∧ (k = 4 → x = 14) ∧ (k = 5 → x = 35) ∧ (k = 6 → x = 36) ∧ (k = 7 → x = 46) ∧ (k = 8 → x = 49) ∧ (k = 9 → x = 54) ∧ (k = 10 → x = 58 ∨ x = 70) ∧ (k = 11 → x = 58 ∨ x = 70) ∧ (k = 12 → x = 82 ∨ x = 86) ∧ (k = 13 → x = 82 ∨ x = 86)
def iv_1 (k x : Int) : Prop := (k = 0 → x = 2) ∧ (k = 1 → 0 ≤ x ∧ x ≤ 1000) ∧ (k = 2 → 0 ≤ x ∧ x ≤ 4) ∧ (k = 3 → 0 ≤ x ∧ x ≤ 1000) ∧ (k = 4 → (-2147483648) ≤ x ∧ x ≤ 2147483647) ∧ (k = 5 → 0 ≤ x ∧ x ≤ 65535) ∧ (k = 7 → 0 ≤ x ∧ x ≤ 1000)
def iv_2 (k x : Int) : Prop := 0 ≤ x ∧ x ≤ 65535
def iv_3 (k x : Int) : Prop := (k = 0 → x = 1) ∧ (k = 1 → x = (-1) ∨ x = 58 ∨ x = 70) ∧ (k = 2 → (-2147483648) ≤ x ∧ x ≤ 2147483647) ∧ (k = 3 → (-2147483648) ≤ x ∧ x ≤ 2147483647)
def iv_4 (k x : Int) : Prop := (k = 0 → 0 ≤ x ∧ x ≤ 53) ∧ (k = 1 → (-2147483648) ≤ x ∧ x ≤ 2147483647) ∧ (k = 2 → (-2147483648) ≤ x ∧ x ≤ 2147483647) ∧ (k = 4 → 0 ≤ x ∧ x ≤ 10) ∧ (k = 5 → 0 ≤ x ∧ x ≤ 8) ∧ (k = 6 → x = 5) ∧ (k = 7 → x = 6) ∧ (k = 8 → x = 7) ∧ (k = 9 → x = 8)
def iv_5 (k x : Int) : Prop := (-2147483648) ≤ x ∧ x ≤ 2147483647
def iv_6 (k x : Int) : Prop := (-2147483648) ≤ x ∧ x ≤ 2147483647
def iv_7 (k x : Int) : Prop := (-2147483648) ≤ x ∧ x ≤ 2147483647
def iv_8 (k x : Int) : Prop := (-2147483648) ≤ x ∧ x ≤ 2147483647
def iv_9 (k x : Int) : Prop := (k = 0 → 0 ≤ x ∧ x ≤ 16) ∧ (k = 1 → 0 ≤ x ∧ x ≤ 15) ∧ (k = 2 → x = 10) ∧ (k = 3 → x = 11) ∧ (k = 4 → x = 12) ∧ (k = 5 → x = 13)
def iv_10 (k x : Int) : Prop := 0 ≤ x ∧ x ≤ 53
def iv_11 (k x : Int) : Prop := (-2147483648) ≤ x ∧ x ≤ 2147483647
def iv_12 (k x : Int) : Prop := (-2147483648) ≤ x ∧ x ≤ 2147483647
def iv_13 (k x : Int) : Prop := True
def iv_14 (k x : Int) : Prop := (k = 0 → x = 15) ∧ (k = 1 → x = 20) ∧ (k = 2 → x = 25) ∧ (k = 3 → x = 30)
def iv_15 (k x : Int) : Prop := (k = 0 → 0 ≤ x ∧ x ≤ 53) ∧ (k = 1 → (-2147483648) ≤ x ∧ x ≤ 2147483647) ∧ (k = 2 → (-2147483648) ≤ x ∧ x ≤ 2147483647) ∧ (k = 4 → 0 ≤ x ∧ x ≤ 10) ∧ (k = 5 → 0 ≤ x ∧ x ≤ 8) ∧ (k = 6 → x = 16) ∧ (k = 7 → x = 17) ∧ (k = 8 → x = 18) ∧ (k = 9 → x = 19)
def iv_16 (k x : Int) : Prop := (-2147483648) ≤ x ∧ x ≤ 2147483647
def iv_17 (k x : Int) : Prop := (-2147483648) ≤ x ∧ x ≤ 2147483647
def iv_18 (k x : Int) : Prop := (-2147483648) ≤ x ∧ x ≤ 2147483647
def iv_19 (k x : Int) : Prop := (-2147483648) ≤ x ∧ x ≤ 2147483647
def iv_20 (k x : Int) : Prop := (k = 0 → 0 ≤ x ∧ x ≤ 53) ∧ (k = 1 → (-2147483648) ≤ x ∧ x ≤ 2147483647) ∧ (k = 2 → (-2147483648) ≤ x ∧ x ≤ 2147483647) ∧ (k = 4 → 0 ≤ x ∧ x ≤ 10) ∧ (k = 5 → 0 ≤ x ∧ x ≤ 8) ∧ (k = 6 → x = 21) ∧ (k = 7 → x = 22) ∧ (k = 8 → x = 23) ∧ (k = 9 → x = 24)
def iv_21 (k x : Int) : Prop := (-2147483648) ≤ x ∧ x ≤ 2147483647
def iv_22 (k x : Int) : Prop := (-2147483648) ≤ x ∧ x ≤ 2147483647
def iv_23 (k x : Int) : Prop := (-2147483648) ≤ x ∧ x ≤ 2147483647
def iv_24 (k x : Int) : Prop := (-2147483648) ≤ x ∧ x ≤ 2147483647
def iv_25 (k x : Int) : Prop := (k = 0 → 0 ≤ x ∧ x ≤ 53) ∧ (k = 1 → (-2147483648) ≤ x ∧ x ≤ 2147483647) ∧ (k = 2 → (-2147483648) ≤ x ∧ x ≤ 2147483647) ∧ (k = 4 → 0 ≤ x ∧ x ≤ 10) ∧ (k = 5 → 0 ≤ x ∧ x ≤ 8) ∧ (k = 6 → x = 26) ∧ (k = 7 → x = 27) ∧ (k = 8 → x = 28) ∧ (k = 9 → x = 29)
def iv_26 (k x : Int) : Prop := (-2147483648) ≤ x ∧ x ≤ 2147483647
def iv_27 (k x : Int) : Prop := (-2147483648) ≤ x ∧ x ≤ 2147483647
def iv_28 (k x : Int) : Prop := (-2147483648) ≤ x ∧ x ≤ 2147483647
def iv_29 (k x : Int) : Prop := (-2147483648) ≤ x ∧ x ≤ 2147483647
def iv_30 (k x : Int) : Prop := (k = 0 → 0 ≤ x ∧ x ≤ 53) ∧ (k = 1 → (-2147483648) ≤ x ∧ x ≤ 2147483647) ∧ (k = 2 → (-2147483648) ≤ x ∧ x ≤ 2147483647) ∧ (k = 4 → 0 ≤ x ∧ x ≤ 10) ∧ (k = 5 → 0 ≤ x ∧ x ≤ 8) ∧ (k = 6 → x = 31) ∧ (k = 7 → x = 32) ∧ (k = 8 → x = 33) ∧ (k = 9 → x = 34)
def iv_31 (k x : Int) : Prop := (-2147483648) ≤ x ∧ x ≤ 2147483647
def iv_32 (k x : Int) : Prop := (-2147483648) ≤ x ∧ x ≤ 2147483647
def iv_33 (k x : Int) : Prop := (-2147483648) ≤ x ∧ x ≤ 2147483647
def iv_34 (k x : Int) : Prop := (-2147483648) ≤ x ∧ x ≤ 2147483647
def iv_35 (k x : Int) : Prop := 0 ≤ x ∧ x ≤ 1
def iv_36 (k x : Int) : Prop := (k = 0 → (-2147483648) ≤ x ∧ x ≤ 2147483647) ∧ (k = 1 → (-2147483648) ≤ x ∧ x ≤ 2147483647) ∧ (k = 2 → x = 37) ∧ (k = 3 → x = 40) ∧ (k = 4 → x = 43) ∧ (k = 5 → x = 44) ∧ (k = 6 → x = 45) ∧ (k = 7 → 0 ≤ x ∧ x ≤ 1) ∧ (k = 8 → x = (-1) ∨ x = 58 ∨ x = 70) ∧ (k = 10 → (-2147483648) ≤ x ∧ x ≤ 2147483647) ∧ (k = 11 → 0 ≤ x ∧ x ≤ 1) ∧ (k = 12 → (-2147483648) ≤ x ∧ x ≤ 2147483647) ∧ (k = 13 → 0 ≤ x ∧ x ≤ 53) ∧ (k = 14 → (-2147483648) ≤ x ∧ x ≤ 2147483647) ∧ (k = 15 → (-2147483648) ≤ x ∧ x ≤ 2147483647) ∧ (k = 16 → (-2147483648) ≤ x ∧ x ≤ 2147483647) ∧ (k = 17 → (-2147483648) ≤ x ∧ x ≤ 2147483647)
def iv_37 (k x : Int) : Prop := (k = 1 → x = 39) ∧ (k = 2 → (-2147483648) ≤ x ∧ x ≤ 2147483647)
def iv_38 (k x : Int) : Prop := True
def iv_39 (k x : Int) : Prop := (-2147483648) ≤ x ∧ x ≤ 2147483647
def iv_40 (k x : Int) : Prop := (k = 1 → x = 42) ∧ (k = 2 → (-2147483648) ≤ x ∧ x ≤ 2147483647)
def iv_41 (k x : Int) : Prop := True
def iv_42 (k x : Int) : Prop := (-2147483648) ≤ x ∧ x ≤ 2147483647
def iv_43 (k x : Int) : Prop := (-2147483648) ≤ x ∧ x ≤ 2147483647
def iv_44 (k x : Int) : Prop := (-2147483648) ≤ x ∧ x ≤ 2147483647
def iv_45 (k x : Int) : Prop := (-2147483648) ≤ x ∧ x ≤ 2147483647
def iv_46 (k x : Int) : Prop := (k = 0 → (-2147483648) ≤ x ∧ x ≤ 2147483647) ∧ (k = 3 → x = (-1) ∨ x = 58 ∨ x = 70) ∧ (k = 4 → x = (-1) ∨ x = 4) ∧ (k = 5 → x = 47) ∧ (k = 6 → x = 48)
def iv_47 (k x : Int) : Prop := (-2147483648) ≤ x ∧ x ≤ 2147483647
def iv_48 (k x : Int) : Prop := (-2147483648) ≤ x ∧ x ≤ 2147483647
def iv_49 (k x : Int) : Prop := (k = 0 → (-2147483648) ≤ x ∧ x ≤ 2147483647) ∧ (k = 1 → (-2147483648) ≤ x ∧ x ≤ 2147483647) ∧ (k = 2 → x = 50) ∧ (k = 3 → x = 51) ∧ (k = 4 → x = (-1) ∨ x = 58 ∨ x = 70) ∧ (k = 5 → x = (-1) ∨ x = 82 ∨ x = 86) ∧ (k = 6 → (-1) ≤ x ∧ x ≤ 9) ∧ (k = 7 → (-2147483648) ≤ x ∧ x ≤ 2147483647) ∧ (k = 8 → 0 ≤ x ∧ x ≤ 1)
def iv_50 (k x : Int) : Prop := (-2147483648) ≤ x ∧ x ≤ 2147483647
def iv_51 (k x : Int) : Prop := (k = 1 → x = 53) ∧ (k = 2 → (-2147483648) ≤ x ∧ x ≤ 2147483647)
def iv_52 (k x : Int) : Prop := True
def iv_53 (k x : Int) : Prop := (-2147483648) ≤ x ∧ x ≤ 2147483647
def iv_54 (k x : Int) : Prop := (k = 0 → (-2147483648) ≤ x ∧ x ≤ 2147483647) ∧ (k = 1 → x = 55) ∧ (k = 2 → x = 56) ∧ (k = 3 → x = 57) ∧ (k = 4 → 0 ≤ x ∧ x ≤ 4) ∧ (k = 5 → 0 ≤ x ∧ x ≤ 60) ∧ (k = 6 → (-1) ≤ x ∧ x ≤ 30) ∧ (k = 7 → 0 ≤ x ∧ x ≤ 1) ∧ (k = 8 → (-2147483648) ≤ x ∧ x ≤ 2147483647)
def iv_55 (k x : Int) : Prop := (-2147483648) ≤ x ∧ x ≤ 2147483647
def iv_56 (k x : Int) : Prop := (-2147483648) ≤ x ∧ x ≤ 2147483647
def iv_57 (k x : Int) : Prop := True
def iv_58 (k x : Int) : Prop := (k = 0 → 0 ≤ x ∧ x ≤ 6) ∧ (k = 1 → 0 ≤ x ∧ x ≤ 9) ∧ (k = 2 → x = 59) ∧ (k = 3 → x = 60) ∧ (k = 4 → x = 61) ∧ (k = 5 → x = 62) ∧ (k = 6 → x = 63) ∧ (k = 7 → x = 64) ∧ (k = 8 → 0 ≤ x ∧ x ≤ 1) ∧ (k = 9 → (-2147483648) ≤ x ∧ x ≤ 2147483647) ∧ (k = 10 → 0 ≤ x ∧ x ≤ 1200) ∧ (k = 11 → 0 ≤ x ∧ x ≤ 4) ∧ (k = 12 → x = 65) ∧ (k = 13 → x = 66) ∧ (k = 14 → x = 67) ∧ (k = 15 → x = 68) ∧ (k = 16 → 0 ≤ x ∧ x ≤ 1000) ∧ (k = 17 → x = 69)
def iv_59 (k x : Int) : Prop := (-1) ≤ x ∧ x ≤ 3
def iv_60 (k x : Int) : Prop := 0 ≤ x ∧ x ≤ 60
def iv_61 (k x : Int) : Prop := 0 ≤ x ∧ x ≤ 59
def iv_62 (k x : Int) : Prop := 0 ≤ x ∧ x ≤ 60
def iv_63 (k x : Int) : Prop := (-2147483648) ≤ x ∧ x ≤ 2147483647
def iv_64 (k x : Int) : Prop := -1 ≤ x ∧ x ≤ 30 ∧ (k = 3 → x ≤ 9)
def iv_65 (k x : Int) : Prop := 0 ≤ x ∧ x ≤ 3 ∧ (48 ≤ k → x ≤ 1) ∧ (53 ≤ k → x ≤ 0)
def iv_66 (k x : Int) : Prop := True
def iv_67 (k x : Int) : Prop := 0 ≤ x ∧ x ≤ 1000
def iv_68 (k x : Int) : Prop := (-2147483648) ≤ x ∧ x ≤ 2147483647
def iv_69 (k x : Int) : Prop := (-2147483648) ≤ x ∧ x ≤ 2147483647
def iv_70 (k x : Int) : Prop := (k = 0 → 0 ≤ x ∧ x ≤ 6) ∧ (k = 1 → 0 ≤ x ∧ x ≤ 9) ∧ (k = 2 → x = 71) ∧ (k = 3 → x = 72) ∧ (k = 4 → x = 73) ∧ (k = 5 → x = 74) ∧ (k = 6 → x = 75) ∧ (k = 7 → x = 76) ∧ (k = 8 → 0 ≤ x ∧ x ≤ 1) ∧ (k = 9 → (-2147483648) ≤ x ∧ x ≤ 2147483647) ∧ (k = 10 → 0 ≤ x ∧ x ≤ 1200) ∧ (k = 11 → 0 ≤ x ∧ x ≤ 4) ∧ (k = 12 → x = 77) ∧ (k = 13 → x = 78) ∧ (k = 14 → x = 79) ∧ (k = 15 → x = 80) ∧ (k = 16 → 0 ≤ x ∧ x ≤ 1000) ∧ (k = 17 → x = 81)
def iv_71 (k x : Int) : Prop := (-1) ≤ x ∧ x ≤ 3
def iv_72 (k x : Int) : Prop := 0 ≤ x ∧ x ≤ 60
def iv_73 (k x : Int) : Prop := 0 ≤ x ∧ x ≤ 59
def iv_74 (k x : Int) : Prop := 0 ≤ x ∧ x ≤ 60
def iv_75 (k x : Int) : Prop := (-2147483648) ≤ x ∧ x ≤ 2147483647
def iv_76 (k x : Int) : Prop := -1 ≤ x ∧ x ≤ 30 ∧ (k = 3 → x ≤ 9)
def iv_77 (k x : Int) : Prop := 0 ≤ x ∧ x ≤ 3 ∧ (48 ≤ k → x ≤ 1) ∧ (53 ≤ k → x ≤ 0)
def iv_78 (k x : Int) : Prop := True
def iv_79 (k x : Int) : Prop := 0 ≤ x ∧ x ≤ 1000
def iv_80 (k x : Int) : Prop := (-2147483648) ≤ x ∧ x ≤ 2147483647
def iv_81 (k x : Int) : Prop := (-2147483648) ≤ x ∧ x ≤ 2147483647
def iv_82 (k x : Int) : Prop := (k = 0 → 0 ≤ x ∧ x ≤ 13) ∧ (k = 1 → 0 ≤ x ∧ x ≤ 53) ∧ (k = 2 → x = 83) ∧ (k = 3 → x = 84) ∧ (k = 4 → x = 85)
def iv_83 (k x : Int) : Prop := 0 ≤ x ∧ x ≤ 53
def iv_84 (k x : Int) : Prop := 0 ≤ x ∧ x ≤ 1
def iv_85 (k x : Int) : Prop := (-2147483648) ≤ x ∧ x ≤ 2147483647
def iv_86 (k x : Int) : Prop := (k = 0 → 0 ≤ x ∧ x ≤ 13) ∧ (k = 1 → 0 ≤ x ∧ x ≤ 53) ∧ (k = 2 → x = 87) ∧ (k = 3 → x = 88) ∧ (k = 4 → x = 89)
def iv_87 (k x : Int) : Prop := 0 ≤ x ∧ x ≤ 53
def iv_88 (k x : Int) : Prop := 0 ≤ x ∧ x ≤ 1
def iv_89 (k x : Int) : Prop := (-2147483648) ≤ x ∧ x ≤ 2147483647
def iv_90 (k x : Int) : Prop := True
def iv_91 (k x : Int) : Prop := True
def iv_92 (k x : Int) : Prop := True
def iv_93 (k x : Int) : Prop := True
def iv_94 (k x : Int) : Prop := True
def iv_95 (k x : Int) : Prop := True
def iv_96 (k x : Int) : Prop := True
def iv_97 (k x : Int) : Prop := True
def iv_98 (k x : Int) : Prop := True
def iv_99 (k x : Int) : Prop := True
def iv_100 (k x : Int) : Prop := True
def iv_101 (k x : Int) : Prop := True
def iv_102 (k x : Int) : Prop := True
def iv_103 (k x : Int) : Prop := True
def iv_104 (k x : Int) : Prop := True
def iv_105 (k x : Int) : Prop := True
def iv_106 (k x : Int) : Prop := True
def iv_107 (k x : Int) : Prop := True
def iv_108 (k x : Int) : Prop := True
def iv_109 (k x : Int) : Prop := True
def iv_110 (k x : Int) : Prop := True
def iv_111 (k x : Int) : Prop := True
def iv_112 (k x : Int) : Prop := True
def iv_113 (k x : Int) : Prop := True
def iv_114 (k x : Int) : Prop := True
def ov_pr : Nat → Int → Int → Prop := fun a => match a with
  | 0 => iv_0
  | 1 => iv_1
  | 2 => iv_2
  | 3 => iv_3
  | 4 => iv_4
  | 5 => iv_5
  | 6 => iv_6
  | 7 => iv_7
  | 8 => iv_8
  | 9 => iv_9
  | 10 => iv_10
  | 11 => iv_11
  | 12 => iv_12
  | 13 => iv_13
  | 14 => iv_14
  | 15 => iv_15
  | 16 => iv_16
  | 17 => iv_17
  | 18 => iv_18
  | 19 => iv_19
  | 20 => iv_20
  | 21 => iv_21
  | 22 => iv_22
  | 23 => iv_23
  | 24 => iv_24
  | 25 => iv_25
  | 26 => iv_26
  | 27 => iv_27
  | 28 => iv_28
  | 29 => iv_29
  | 30 => iv_30
  | 31 => iv_31
  | 32 => iv_32
  | 33 => iv_33
  | 34 => iv_34
  | 35 => iv_35
  | 36 => iv_36
  | 37 => iv_37
  | 38 => iv_38
  | 39 => iv_39
  | 40 => iv_40
  | 41 => iv_41
  | 42 => iv_42
  | 43 => iv_43
  | 44 => iv_44
  | 45 => iv_45
  | 46 => iv_46
  | 47 => iv_47
  | 48 => iv_48
  | 49 => iv_49
  | 50 => iv_50
  | 51 => iv_51
  | 52 => iv_52
  | 53 => iv_53
  | 54 => iv_54
  | 55 => iv_55
  | 56 => iv_56
  | 57 => iv_57
  | 58 => iv_58
  | 59 => iv_59
  | 60 => iv_60
  | 61 => iv_61
  | 62 => iv_62
  | 63 => iv_63
  | 64 => iv_64
  | 65 => iv_65
  | 66 => iv_66
  | 67 => iv_67
  | 68 => iv_68
  | 69 => iv_69
  | 70 => iv_70
  | 71 => iv_71
  | 72 => iv_72
  | 73 => iv_73
  | 74 => iv_74
  | 75 => iv_75
  | 76 => iv_76
  | 77 => iv_77
  | 78 => iv_78
  | 79 => iv_79
  | 80 => iv_80
  | 81 => iv_81
  | 82 => iv_82
  | 83 => iv_83
  | 84 => iv_84
  | 85 => iv_85
  | 86 => iv_86
  | 87 => iv_87
  | 88 => iv_88
  | 89 => iv_89
  | 90 => iv_90
  | 91 => iv_91
  | 92 => iv_92
  | 93 => iv_93
  | 94 => iv_94
  | 95 => iv_95
  | 96 => iv_96
  | 97 => iv_97
  | 98 => iv_98
  | 99 => iv_99
  | 100 => iv_100
  | 101 => iv_101
  | 102 => iv_102
  | 103 => iv_103
  | 104 => iv_104
  | 105 => iv_105
  | 106 => iv_106
  | 107 => iv_107
  | 108 => iv_108
  | 109 => iv_109
  | 110 => iv_110
  | 111 => iv_111
  | 112 => iv_112
  | 113 => iv_113
  | _ => iv_114
def ov_mm (z : ov_Z) (h : ov_H) : Prop := ∃ n1 n2 n3 : Nat,
  (z.2.2 (h 37 0) = (1, n1) ∧ (h 37 0 = 38 ∨ 115 ≤ h 37 0) ∧ h 37 0 < z.1 ∧ n1 ≤ 129600) ∧ (z.2.2 (h 40 0) = (1, n2) ∧ (h 40 0 = 41 ∨ 115 ≤ h 40 0) ∧ h 40 0 < z.1 ∧ n2 ≤ 125064) ∧ (z.2.2 (h 51 0) = (1, n3) ∧ (h 51 0 = 52 ∨ 115 ≤ h 51 0) ∧ h 51 0 < z.1 ∧ n3 ≤ 312000) ∧ z.1 ≤ 115 + n1 + n2 + n3 ∧ z.2.1 ≤ 434707 + 2 * (n1 + n2 + n3)
def ov_J (z : ov_Z) (h : ov_H) : Prop := (115 ≤ z.1 ∧ ∀ a : Int, 0 ≤ a → a < 115 → z.2.2 a = ov_sh0 a) ∧ (∀ a k : Int, 0 ≤ a → a < 115 → ov_pr a.toNat k (h a k)) ∧ ov_mm z h
/-- the class's cells are in order, the reference's rows are those of F, and a town of which F (-5) says so has been told -/
def ov_I (F : ov_H) (z : ov_Z) (h : ov_H) : Prop := ov_J z h ∧ (∀ b : Int, 90 ≤ b → b < 115 → h b = F b) ∧ ∀ T : Int, T = 58 ∨ T = 70 → F (-5) T = 1 → 1 ≤ h T 0 ∧ 1 ≤ h T 1
theorem ov_I_up {F : ov_H} {z : ov_Z} {h : ov_H} {a k x : Int} (I : ov_I F z h) (hm : ¬ (k = 0 ∧ (a = 37 ∨ a = 40 ∨ a = 51)) ∧ a < 90) (hw : (a = 58 ∨ a = 70) → (k = 0 ∨ k = 1) → 1 ≤ x) (hx : ov_pr a.toNat k x) : ov_I F z (ov_up h a k x) := by
  refine ⟨⟨I.1.1, fun b j h0 h1 => ?_, ?_⟩, fun b h0 h1 => ?_, fun T hT hf => ?_⟩
  · unfold ov_up
    split
    · rename_i hc
      rw [hc.1, hc.2]
      exact hx
    · exact I.1.2.1 b j h0 h1
  · have e : ∀ b : Int, (b = 37 ∨ b = 40 ∨ b = 51) → ov_up h a k x b 0 = h b 0 := fun b hb => by
      unfold ov_up
      rw [if_neg (fun q => hm.1 ⟨q.2.symm, by rw [← q.1]; exact hb⟩)]
    obtain ⟨n1, n2, n3, hh⟩ := I.1.2.2
    refine ⟨n1, n2, n3, ?_⟩
    rw [e 37 (Or.inl rfl), e 40 (Or.inr (Or.inl rfl)), e 51 (Or.inr (Or.inr rfl))]
    exact hh
  · rw [ov_up_ne (by have := hm.2; omega)]
    exact I.2.1 b h0 h1
  · have q := I.2.2 T hT hf
    unfold ov_up
    constructor
    · split
      · rename_i hc
        exact hw (by rw [← hc.1]; exact hT) (Or.inl hc.2.symm)
      · exact q.1
    · split
      · rename_i hc
        exact hw (by rw [← hc.1]; exact hT) (Or.inr hc.2.symm)
      · exact q.2
theorem fg_58 {F : ov_H} {z : ov_Z} {h : ov_H} (I : ov_I F z h) (hf : F (-5) 58 = 1) : 1 ≤ h 58 0 ∧ 1 ≤ h 58 1 := I.2.2 58 (Or.inl rfl) hf
theorem fg_70 {F : ov_H} {z : ov_Z} {h : ov_H} (I : ov_I F z h) (hf : F (-5) 70 = 1) : 1 ≤ h 70 0 ∧ 1 ≤ h 70 1 := I.2.2 70 (Or.inr rfl) hf
theorem ov_up_f {F : ov_H} {T S x : Int} : ov_up F (-5) T x (-5) S = if S = T then x else F (-5) S := by
  unfold ov_up
  by_cases e : S = T
  · rw [if_pos ⟨rfl, e⟩, if_pos e]
  · rw [if_neg (fun q => e q.2), if_neg e]
/-- F may say less, or more where it is so -/
theorem ov_I_fl {F F' : ov_H} {z : ov_Z} {h : ov_H} (I : ov_I F z h) (hr : ∀ b : Int, 90 ≤ b → b < 115 → F' b = F b) (hf : ∀ T : Int, T = 58 ∨ T = 70 → F' (-5) T = 1 → 1 ≤ h T 0 ∧ 1 ≤ h T 1) : ov_I F' z h :=
  ⟨I.1, fun b h0 h1 => (I.2.1 b h0 h1).trans (hr b h0 h1).symm, hf⟩
theorem ov_I_fu {F : ov_H} {z : ov_Z} {h : ov_H} {T : Int} (I : ov_I F z h) (hT : 1 ≤ h T 0 ∧ 1 ≤ h T 1) : ov_I (ov_up F (-5) T 1) z h := ov_I_fl I (fun b h0 h1 => ov_up_ne (by omega)) (fun S hS hf => by
  by_cases e : S = T
  · rw [e]
    exact hT
  · rw [ov_up_f, if_neg e] at hf
    exact I.2.2 S hS hf)
theorem ov_I_fk {F : ov_H} {z : ov_Z} {h : ov_H} {T S : Int} (hS : S = 58 ∨ S = 70) (I : ov_I (ov_up F (-5) T 1) z h) (hf : F (-5) S = 1) : 1 ≤ h S 0 ∧ 1 ≤ h S 1 := I.2.2 S hS (by
  rw [ov_up_f]
  split
  · rfl
  · exact hf)
theorem ov_I_fg {F : ov_H} {z : ov_Z} {h : ov_H} {T : Int} (hT : T = 58 ∨ T = 70) (I : ov_I (ov_up F (-5) T 1) z h) : 1 ≤ h T 0 ∧ 1 ≤ h T 1 := I.2.2 T hT (by rw [ov_up_f, if_pos rfl])
theorem ov_I_fd {F : ov_H} {z : ov_Z} {h : ov_H} {T : Int} (I : ov_I (ov_up F (-5) T 1) z h) : ov_I F z h := ov_I_fl I (fun b h0 h1 => (ov_up_ne (by omega)).symm) (fun S hS hf => ov_I_fk hS I hf)
theorem zb_0 {F : ov_H} {z : ov_Z} {h : ov_H} (I : ov_I F z h) : 0 ≤ (0 : Int) ∧ (0 : Int) < z.1 := ⟨by decide, by have := I.1.1.1; omega⟩
theorem zs_0 {F : ov_H} {z : ov_Z} {h : ov_H} (I : ov_I F z h) : z.2.2 0 = (5, 14) := I.1.1.2 0 (by decide) (by decide)
theorem rg_0_0 {F : ov_H} {z : ov_Z} {h : ov_H} (I : ov_I F z h) : (h 0 0) = 1 := (I.1.2.1 0 0 (by decide) (by decide)).1 rfl
theorem up_0_0 {F : ov_H} {z : ov_Z} {h : ov_H} (I : ov_I F z h) {x : Int} (hx : x = 1) : ov_I F z (ov_up h 0 0 x) := ov_I_up I ⟨fun q => by omega, by decide⟩ (fun e => by omega) ⟨fun _ => hx, fun e => absurd e (by decide), fun e => absurd e (by decide), fun e => absurd e (by decide), fun e => absurd e (by decide), fun e => absurd e (by decide), fun e => absurd e (by decide), fun e => absurd e (by decide), fun e => absurd e (by decide), fun e => absurd e (by decide), fun e => absurd e (by decide), fun e => absurd e (by decide), fun e => absurd e (by decide), fun e => absurd e (by decide)⟩
theorem rg_0_1 {F : ov_H} {z : ov_Z} {h : ov_H} (I : ov_I F z h) : (h 0 1) = 3 := (I.1.2.1 0 1 (by decide) (by decide)).2.1 rfl
theorem up_0_1 {F : ov_H} {z : ov_Z} {h : ov_H} (I : ov_I F z h) {x : Int} (hx : x = 3) : ov_I F z (ov_up h 0 1 x) := ov_I_up I ⟨fun q => by omega, by decide⟩ (fun e => by omega) ⟨fun e => absurd e (by decide), fun _ => hx, fun e => absurd e (by decide), fun e => absurd e (by decide), fun e => absurd e (by decide), fun e => absurd e (by decide), fun e => absurd e (by decide), fun e => absurd e (by decide), fun e => absurd e (by decide), fun e => absurd e (by decide), fun e => absurd e (by decide), fun e => absurd e (by decide), fun e => absurd e (by decide), fun e => absurd e (by decide)⟩
theorem rg_0_2 {F : ov_H} {z : ov_Z} {h : ov_H} (I : ov_I F z h) : (h 0 2) = 4 := (I.1.2.1 0 2 (by decide) (by decide)).2.2.1 rfl
theorem up_0_2 {F : ov_H} {z : ov_Z} {h : ov_H} (I : ov_I F z h) {x : Int} (hx : x = 4) : ov_I F z (ov_up h 0 2 x) := ov_I_up I ⟨fun q => by omega, by decide⟩ (fun e => by omega) ⟨fun e => absurd e (by decide), fun e => absurd e (by decide), fun _ => hx, fun e => absurd e (by decide), fun e => absurd e (by decide), fun e => absurd e (by decide), fun e => absurd e (by decide), fun e => absurd e (by decide), fun e => absurd e (by decide), fun e => absurd e (by decide), fun e => absurd e (by decide), fun e => absurd e (by decide), fun e => absurd e (by decide), fun e => absurd e (by decide)⟩
theorem rg_0_3 {F : ov_H} {z : ov_Z} {h : ov_H} (I : ov_I F z h) : (h 0 3) = 9 := (I.1.2.1 0 3 (by decide) (by decide)).2.2.2.1 rfl
theorem up_0_3 {F : ov_H} {z : ov_Z} {h : ov_H} (I : ov_I F z h) {x : Int} (hx : x = 9) : ov_I F z (ov_up h 0 3 x) := ov_I_up I ⟨fun q => by omega, by decide⟩ (fun e => by omega) ⟨fun e => absurd e (by decide), fun e => absurd e (by decide), fun e => absurd e (by decide), fun _ => hx, fun e => absurd e (by decide), fun e => absurd e (by decide), fun e => absurd e (by decide), fun e => absurd e (by decide), fun e => absurd e (by decide), fun e => absurd e (by decide), fun e => absurd e (by decide), fun e => absurd e (by decide), fun e => absurd e (by decide), fun e => absurd e (by decide)⟩
theorem rg_0_4 {F : ov_H} {z : ov_Z} {h : ov_H} (I : ov_I F z h) : (h 0 4) = 14 := (I.1.2.1 0 4 (by decide) (by decide)).2.2.2.2.1 rfl
theorem up_0_4 {F : ov_H} {z : ov_Z} {h : ov_H} (I : ov_I F z h) {x : Int} (hx : x = 14) : ov_I F z (ov_up h 0 4 x) := ov_I_up I ⟨fun q => by omega, by decide⟩ (fun e => by omega) ⟨fun e => absurd e (by decide), fun e => absurd e (by decide), fun e => absurd e (by decide), fun e => absurd e (by decide), fun _ => hx, fun e => absurd e (by decide), fun e => absurd e (by decide), fun e => absurd e (by decide), fun e => absurd e (by decide), fun e => absurd e (by decide), fun e => absurd e (by decide), fun e => absurd e (by decide), fun e => absurd e (by decide), fun e => absurd e (by decide)⟩
theorem rg_0_5 {F : ov_H} {z : ov_Z} {h : ov_H} (I : ov_I F z h) : (h 0 5) = 35 := (I.1.2.1 0 5 (by decide) (by decide)).2.2.2.2.2.1 rfl
theorem up_0_5 {F : ov_H} {z : ov_Z} {h : ov_H} (I : ov_I F z h) {x : Int} (hx : x = 35) : ov_I F z (ov_up h 0 5 x) := ov_I_up I ⟨fun q => by omega, by decide⟩ (fun e => by omega) ⟨fun e => absurd e (by decide), fun e => absurd e (by decide), fun e => absurd e (by decide), fun e => absurd e (by decide), fun e => absurd e (by decide), fun _ => hx, fun e => absurd e (by decide), fun e => absurd e (by decide), fun e => absurd e (by decide), fun e => absurd e (by decide), fun e => absurd e (by decide), fun e => absurd e (by decide), fun e => absurd e (by decide), fun e => absurd e (by decide)⟩
theorem rg_0_6 {F : ov_H} {z : ov_Z} {h : ov_H} (I : ov_I F z h) : (h 0 6) = 36 := (I.1.2.1 0 6 (by decide) (by decide)).2.2.2.2.2.2.1 rfl
theorem up_0_6 {F : ov_H} {z : ov_Z} {h : ov_H} (I : ov_I F z h) {x : Int} (hx : x = 36) : ov_I F z (ov_up h 0 6 x) := ov_I_up I ⟨fun q => by omega, by decide⟩ (fun e => by omega) ⟨fun e => absurd e (by decide), fun e => absurd e (by decide), fun e => absurd e (by decide), fun e => absurd e (by decide), fun e => absurd e (by decide), fun e => absurd e (by decide), fun _ => hx, fun e => absurd e (by decide), fun e => absurd e (by decide), fun e => absurd e (by decide), fun e => absurd e (by decide), fun e => absurd e (by decide), fun e => absurd e (by decide), fun e => absurd e (by decide)⟩
theorem rg_0_7 {F : ov_H} {z : ov_Z} {h : ov_H} (I : ov_I F z h) : (h 0 7) = 46 := (I.1.2.1 0 7 (by decide) (by decide)).2.2.2.2.2.2.2.1 rfl
theorem up_0_7 {F : ov_H} {z : ov_Z} {h : ov_H} (I : ov_I F z h) {x : Int} (hx : x = 46) : ov_I F z (ov_up h 0 7 x) := ov_I_up I ⟨fun q => by omega, by decide⟩ (fun e => by omega) ⟨fun e => absurd e (by decide), fun e => absurd e (by decide), fun e => absurd e (by decide), fun e => absurd e (by decide), fun e => absurd e (by decide), fun e => absurd e (by decide), fun e => absurd e (by decide), fun _ => hx, fun e => absurd e (by decide), fun e => absurd e (by decide), fun e => absurd e (by decide), fun e => absurd e (by decide), fun e => absurd e (by decide), fun e => absurd e (by decide)⟩
theorem rg_0_8 {F : ov_H} {z : ov_Z} {h : ov_H} (I : ov_I F z h) : (h 0 8) = 49 := (I.1.2.1 0 8 (by decide) (by decide)).2.2.2.2.2.2.2.2.1 rfl
theorem up_0_8 {F : ov_H} {z : ov_Z} {h : ov_H} (I : ov_I F z h) {x : Int} (hx : x = 49) : ov_I F z (ov_up h 0 8 x) := ov_I_up I ⟨fun q => by omega, by decide⟩ (fun e => by omega) ⟨fun e => absurd e (by decide), fun e => absurd e (by decide), fun e => absurd e (by decide), fun e => absurd e (by decide), fun e => absurd e (by decide), fun e => absurd e (by decide), fun e => absurd e (by decide), fun e => absurd e (by decide), fun _ => hx, fun e => absurd e (by decide), fun e => absurd e (by decide), fun e => absurd e (by decide), fun e => absurd e (by decide), fun e => absurd e (by decide)⟩
theorem rg_0_9 {F : ov_H} {z : ov_Z} {h : ov_H} (I : ov_I F z h) : (h 0 9) = 54 := (I.1.2.1 0 9 (by decide) (by decide)).2.2.2.2.2.2.2.2.2.1 rfl
theorem up_0_9 {F : ov_H} {z : ov_Z} {h : ov_H} (I : ov_I F z h) {x : Int} (hx : x = 54) : ov_I F z (ov_up h 0 9 x) := ov_I_up I ⟨fun q => by omega, by decide⟩ (fun e => by omega) ⟨fun e => absurd e (by decide), fun e => absurd e (by decide), fun e => absurd e (by decide), fun e => absurd e (by decide), fun e => absurd e (by decide), fun e => absurd e (by decide), fun e => absurd e (by decide), fun e => absurd e (by decide), fun e => absurd e (by decide), fun _ => hx, fun e => absurd e (by decide), fun e => absurd e (by decide), fun e => absurd e (by decide), fun e => absurd e (by decide)⟩
theorem rg_0_10 {F : ov_H} {z : ov_Z} {h : ov_H} (I : ov_I F z h) : (h 0 10) = 58 ∨ (h 0 10) = 70 := (I.1.2.1 0 10 (by decide) (by decide)).2.2.2.2.2.2.2.2.2.2.1 rfl
theorem up_0_10 {F : ov_H} {z : ov_Z} {h : ov_H} (I : ov_I F z h) {x : Int} (hx : x = 58 ∨ x = 70) : ov_I F z (ov_up h 0 10 x) := ov_I_up I ⟨fun q => by omega, by decide⟩ (fun e => by omega) ⟨fun e => absurd e (by decide), fun e => absurd e (by decide), fun e => absurd e (by decide), fun e => absurd e (by decide), fun e => absurd e (by decide), fun e => absurd e (by decide), fun e => absurd e (by decide), fun e => absurd e (by decide), fun e => absurd e (by decide), fun e => absurd e (by decide), fun _ => hx, fun e => absurd e (by decide), fun e => absurd e (by decide), fun e => absurd e (by decide)⟩
theorem rg_0_11 {F : ov_H} {z : ov_Z} {h : ov_H} (I : ov_I F z h) : (h 0 11) = 58 ∨ (h 0 11) = 70 := (I.1.2.1 0 11 (by decide) (by decide)).2.2.2.2.2.2.2.2.2.2.2.1 rfl
theorem up_0_11 {F : ov_H} {z : ov_Z} {h : ov_H} (I : ov_I F z h) {x : Int} (hx : x = 58 ∨ x = 70) : ov_I F z (ov_up h 0 11 x) := ov_I_up I ⟨fun q => by omega, by decide⟩ (fun e => by omega) ⟨fun e => absurd e (by decide), fun e => absurd e (by decide), fun e => absurd e (by decide), fun e => absurd e (by decide), fun e => absurd e (by decide), fun e => absurd e (by decide), fun e => absurd e (by decide), fun e => absurd e (by decide), fun e => absurd e (by decide), fun e => absurd e (by decide), fun e => absurd e (by decide), fun _ => hx, fun e => absurd e (by decide), fun e => absurd e (by decide)⟩
theorem rg_0_12 {F : ov_H} {z : ov_Z} {h : ov_H} (I : ov_I F z h) : (h 0 12) = 82 ∨ (h 0 12) = 86 := (I.1.2.1 0 12 (by decide) (by decide)).2.2.2.2.2.2.2.2.2.2.2.2.1 rfl
theorem up_0_12 {F : ov_H} {z : ov_Z} {h : ov_H} (I : ov_I F z h) {x : Int} (hx : x = 82 ∨ x = 86) : ov_I F z (ov_up h 0 12 x) := ov_I_up I ⟨fun q => by omega, by decide⟩ (fun e => by omega) ⟨fun e => absurd e (by decide), fun e => absurd e (by decide), fun e => absurd e (by decide), fun e => absurd e (by decide), fun e => absurd e (by decide), fun e => absurd e (by decide), fun e => absurd e (by decide), fun e => absurd e (by decide), fun e => absurd e (by decide), fun e => absurd e (by decide), fun e => absurd e (by decide), fun e => absurd e (by decide), fun _ => hx, fun e => absurd e (by decide)⟩
theorem rg_0_13 {F : ov_H} {z : ov_Z} {h : ov_H} (I : ov_I F z h) : (h 0 13) = 82 ∨ (h 0 13) = 86 := (I.1.2.1 0 13 (by decide) (by decide)).2.2.2.2.2.2.2.2.2.2.2.2.2 rfl
theorem up_0_13 {F : ov_H} {z : ov_Z} {h : ov_H} (I : ov_I F z h) {x : Int} (hx : x = 82 ∨ x = 86) : ov_I F z (ov_up h 0 13 x) := ov_I_up I ⟨fun q => by omega, by decide⟩ (fun e => by omega) ⟨fun e => absurd e (by decide), fun e => absurd e (by decide), fun e => absurd e (by decide), fun e => absurd e (by decide), fun e => absurd e (by decide), fun e => absurd e (by decide), fun e => absurd e (by decide), fun e => absurd e (by decide), fun e => absurd e (by decide), fun e => absurd e (by decide), fun e => absurd e (by decide), fun e => absurd e (by decide), fun e => absurd e (by decide), fun _ => hx⟩
theorem zb_1 {F : ov_H} {z : ov_Z} {h : ov_H} (I : ov_I F z h) : 0 ≤ (1 : Int) ∧ (1 : Int) < z.1 := ⟨by decide, by have := I.1.1.1; omega⟩
theorem zs_1 {F : ov_H} {z : ov_Z} {h : ov_H} (I : ov_I F z h) : z.2.2 1 = (13, 8) := I.1.1.2 1 (by decide) (by decide)
theorem rg_1_0 {F : ov_H} {z : ov_Z} {h : ov_H} (I : ov_I F z h) : (h 1 0) = 2 := (I.1.2.1 1 0 (by decide) (by decide)).1 rfl
theorem up_1_0 {F : ov_H} {z : ov_Z} {h : ov_H} (I : ov_I F z h) {x : Int} (hx : x = 2) : ov_I F z (ov_up h 1 0 x) := ov_I_up I ⟨fun q => by omega, by decide⟩ (fun e => by omega) ⟨fun _ => hx, fun e => absurd e (by decide), fun e => absurd e (by decide), fun e => absurd e (by decide), fun e => absurd e (by decide), fun e => absurd e (by decide), fun e => absurd e (by decide)⟩
theorem rg_1_1 {F : ov_H} {z : ov_Z} {h : ov_H} (I : ov_I F z h) : 0 ≤ (h 1 1) ∧ (h 1 1) ≤ 1000 := (I.1.2.1 1 1 (by decide) (by decide)).2.1 rfl
theorem up_1_1 {F : ov_H} {z : ov_Z} {h : ov_H} (I : ov_I F z h) {x : Int} (hx : 0 ≤ x ∧ x ≤ 1000) : ov_I F z (ov_up h 1 1 x) := ov_I_up I ⟨fun q => by omega, by decide⟩ (fun e => by omega) ⟨fun e => absurd e (by decide), fun _ => hx, fun e => absurd e (by decide), fun e => absurd e (by decide), fun e => absurd e (by decide), fun e => absurd e (by decide), fun e => absurd e (by decide)⟩
theorem rg_1_2 {F : ov_H} {z : ov_Z} {h : ov_H} (I : ov_I F z h) : 0 ≤ (h 1 2) ∧ (h 1 2) ≤ 4 := (I.1.2.1 1 2 (by decide) (by decide)).2.2.1 rfl
theorem up_1_2 {F : ov_H} {z : ov_Z} {h : ov_H} (I : ov_I F z h) {x : Int} (hx : 0 ≤ x ∧ x ≤ 4) : ov_I F z (ov_up h 1 2 x) := ov_I_up I ⟨fun q => by omega, by decide⟩ (fun e => by omega) ⟨fun e => absurd e (by decide), fun e => absurd e (by decide), fun _ => hx, fun e => absurd e (by decide), fun e => absurd e (by decide), fun e => absurd e (by decide), fun e => absurd e (by decide)⟩
theorem rg_1_3 {F : ov_H} {z : ov_Z} {h : ov_H} (I : ov_I F z h) : 0 ≤ (h 1 3) ∧ (h 1 3) ≤ 1000 := (I.1.2.1 1 3 (by decide) (by decide)).2.2.2.1 rfl
theorem up_1_3 {F : ov_H} {z : ov_Z} {h : ov_H} (I : ov_I F z h) {x : Int} (hx : 0 ≤ x ∧ x ≤ 1000) : ov_I F z (ov_up h 1 3 x) := ov_I_up I ⟨fun q => by omega, by decide⟩ (fun e => by omega) ⟨fun e => absurd e (by decide), fun e => absurd e (by decide), fun e => absurd e (by decide), fun _ => hx, fun e => absurd e (by decide), fun e => absurd e (by decide), fun e => absurd e (by decide)⟩
theorem rg_1_4 {F : ov_H} {z : ov_Z} {h : ov_H} (I : ov_I F z h) : (-2147483648) ≤ (h 1 4) ∧ (h 1 4) ≤ 2147483647 := (I.1.2.1 1 4 (by decide) (by decide)).2.2.2.2.1 rfl
theorem up_1_4 {F : ov_H} {z : ov_Z} {h : ov_H} (I : ov_I F z h) {x : Int} (hx : (-2147483648) ≤ x ∧ x ≤ 2147483647) : ov_I F z (ov_up h 1 4 x) := ov_I_up I ⟨fun q => by omega, by decide⟩ (fun e => by omega) ⟨fun e => absurd e (by decide), fun e => absurd e (by decide), fun e => absurd e (by decide), fun e => absurd e (by decide), fun _ => hx, fun e => absurd e (by decide), fun e => absurd e (by decide)⟩
theorem rg_1_5 {F : ov_H} {z : ov_Z} {h : ov_H} (I : ov_I F z h) : 0 ≤ (h 1 5) ∧ (h 1 5) ≤ 65535 := (I.1.2.1 1 5 (by decide) (by decide)).2.2.2.2.2.1 rfl
theorem up_1_5 {F : ov_H} {z : ov_Z} {h : ov_H} (I : ov_I F z h) {x : Int} (hx : 0 ≤ x ∧ x ≤ 65535) : ov_I F z (ov_up h 1 5 x) := ov_I_up I ⟨fun q => by omega, by decide⟩ (fun e => by omega) ⟨fun e => absurd e (by decide), fun e => absurd e (by decide), fun e => absurd e (by decide), fun e => absurd e (by decide), fun e => absurd e (by decide), fun _ => hx, fun e => absurd e (by decide)⟩
theorem up_1_6 {F : ov_H} {z : ov_Z} {h : ov_H} (I : ov_I F z h) {x : Int} : ov_I F z (ov_up h 1 6 x) := ov_I_up I ⟨fun q => by omega, by decide⟩ (fun e => by omega) ⟨fun e => absurd e (by decide), fun e => absurd e (by decide), fun e => absurd e (by decide), fun e => absurd e (by decide), fun e => absurd e (by decide), fun e => absurd e (by decide), fun e => absurd e (by decide)⟩
theorem rg_1_7 {F : ov_H} {z : ov_Z} {h : ov_H} (I : ov_I F z h) : 0 ≤ (h 1 7) ∧ (h 1 7) ≤ 1000 := (I.1.2.1 1 7 (by decide) (by decide)).2.2.2.2.2.2 rfl
theorem up_1_7 {F : ov_H} {z : ov_Z} {h : ov_H} (I : ov_I F z h) {x : Int} (hx : 0 ≤ x ∧ x ≤ 1000) : ov_I F z (ov_up h 1 7 x) := ov_I_up I ⟨fun q => by omega, by decide⟩ (fun e => by omega) ⟨fun e => absurd e (by decide), fun e => absurd e (by decide), fun e => absurd e (by decide), fun e => absurd e (by decide), fun e => absurd e (by decide), fun e => absurd e (by decide), fun _ => hx⟩
theorem zb_2 {F : ov_H} {z : ov_Z} {h : ov_H} (I : ov_I F z h) : 0 ≤ (2 : Int) ∧ (2 : Int) < z.1 := ⟨by decide, by have := I.1.1.1; omega⟩
theorem zs_2 {F : ov_H} {z : ov_Z} {h : ov_H} (I : ov_I F z h) : z.2.2 2 = (2, 1000) := I.1.1.2 2 (by decide) (by decide)
theorem ra_2 {F : ov_H} {z : ov_Z} {h : ov_H} (I : ov_I F z h) (k : Int) : 0 ≤ (h 2 k) ∧ (h 2 k) ≤ 65535 := I.1.2.1 2 k (by decide) (by decide)
theorem ua_2 {F : ov_H} {z : ov_Z} {h : ov_H} (I : ov_I F z h) {k x : Int} (hx : 0 ≤ x ∧ x ≤ 65535) : ov_I F z (ov_up h 2 k x) := ov_I_up I ⟨fun q => by omega, by decide⟩ (fun e => by omega) hx
theorem zb_3 {F : ov_H} {z : ov_Z} {h : ov_H} (I : ov_I F z h) : 0 ≤ (3 : Int) ∧ (3 : Int) < z.1 := ⟨by decide, by have := I.1.1.1; omega⟩
theorem zs_3 {F : ov_H} {z : ov_Z} {h : ov_H} (I : ov_I F z h) : z.2.2 3 = (11, 4) := I.1.1.2 3 (by decide) (by decide)
theorem rg_3_0 {F : ov_H} {z : ov_Z} {h : ov_H} (I : ov_I F z h) : (h 3 0) = 1 := (I.1.2.1 3 0 (by decide) (by decide)).1 rfl
theorem up_3_0 {F : ov_H} {z : ov_Z} {h : ov_H} (I : ov_I F z h) {x : Int} (hx : x = 1) : ov_I F z (ov_up h 3 0 x) := ov_I_up I ⟨fun q => by omega, by decide⟩ (fun e => by omega) ⟨fun _ => hx, fun e => absurd e (by decide), fun e => absurd e (by decide), fun e => absurd e (by decide)⟩
theorem rg_3_1 {F : ov_H} {z : ov_Z} {h : ov_H} (I : ov_I F z h) : (h 3 1) = (-1) ∨ (h 3 1) = 58 ∨ (h 3 1) = 70 := (I.1.2.1 3 1 (by decide) (by decide)).2.1 rfl
theorem up_3_1 {F : ov_H} {z : ov_Z} {h : ov_H} (I : ov_I F z h) {x : Int} (hx : x = (-1) ∨ x = 58 ∨ x = 70) : ov_I F z (ov_up h 3 1 x) := ov_I_up I ⟨fun q => by omega, by decide⟩ (fun e => by omega) ⟨fun e => absurd e (by decide), fun _ => hx, fun e => absurd e (by decide), fun e => absurd e (by decide)⟩
theorem rg_3_2 {F : ov_H} {z : ov_Z} {h : ov_H} (I : ov_I F z h) : (-2147483648) ≤ (h 3 2) ∧ (h 3 2) ≤ 2147483647 := (I.1.2.1 3 2 (by decide) (by decide)).2.2.1 rfl
theorem up_3_2 {F : ov_H} {z : ov_Z} {h : ov_H} (I : ov_I F z h) {x : Int} (hx : (-2147483648) ≤ x ∧ x ≤ 2147483647) : ov_I F z (ov_up h 3 2 x) := ov_I_up I ⟨fun q => by omega, by decide⟩ (fun e => by omega) ⟨fun e => absurd e (by decide), fun e => absurd e (by decide), fun _ => hx, fun e => absurd e (by decide)⟩
theorem rg_3_3 {F : ov_H} {z : ov_Z} {h : ov_H} (I : ov_I F z h) : (-2147483648) ≤ (h 3 3) ∧ (h 3 3) ≤ 2147483647 := (I.1.2.1 3 3 (by decide) (by decide)).2.2.2 rfl
theorem up_3_3 {F : ov_H} {z : ov_Z} {h : ov_H} (I : ov_I F z h) {x : Int} (hx : (-2147483648) ≤ x ∧ x ≤ 2147483647) : ov_I F z (ov_up h 3 3 x) := ov_I_up I ⟨fun q => by omega, by decide⟩ (fun e => by omega) ⟨fun e => absurd e (by decide), fun e => absurd e (by decide), fun e => absurd e (by decide), fun _ => hx⟩
theorem zb_4 {F : ov_H} {z : ov_Z} {h : ov_H} (I : ov_I F z h) : 0 ≤ (4 : Int) ∧ (4 : Int) < z.1 := ⟨by decide, by have := I.1.1.1; omega⟩
theorem zs_4 {F : ov_H} {z : ov_Z} {h : ov_H} (I : ov_I F z h) : z.2.2 4 = (12, 10) := I.1.1.2 4 (by decide) (by decide)
theorem rg_4_0 {F : ov_H} {z : ov_Z} {h : ov_H} (I : ov_I F z h) : 0 ≤ (h 4 0) ∧ (h 4 0) ≤ 53 := (I.1.2.1 4 0 (by decide) (by decide)).1 rfl
theorem up_4_0 {F : ov_H} {z : ov_Z} {h : ov_H} (I : ov_I F z h) {x : Int} (hx : 0 ≤ x ∧ x ≤ 53) : ov_I F z (ov_up h 4 0 x) := ov_I_up I ⟨fun q => by omega, by decide⟩ (fun e => by omega) ⟨fun _ => hx, fun e => absurd e (by decide), fun e => absurd e (by decide), fun e => absurd e (by decide), fun e => absurd e (by decide), fun e => absurd e (by decide), fun e => absurd e (by decide), fun e => absurd e (by decide), fun e => absurd e (by decide)⟩
theorem rg_4_1 {F : ov_H} {z : ov_Z} {h : ov_H} (I : ov_I F z h) : (-2147483648) ≤ (h 4 1) ∧ (h 4 1) ≤ 2147483647 := (I.1.2.1 4 1 (by decide) (by decide)).2.1 rfl
theorem up_4_1 {F : ov_H} {z : ov_Z} {h : ov_H} (I : ov_I F z h) {x : Int} (hx : (-2147483648) ≤ x ∧ x ≤ 2147483647) : ov_I F z (ov_up h 4 1 x) := ov_I_up I ⟨fun q => by omega, by decide⟩ (fun e => by omega) ⟨fun e => absurd e (by decide), fun _ => hx, fun e => absurd e (by decide), fun e => absurd e (by decide), fun e => absurd e (by decide), fun e => absurd e (by decide), fun e => absurd e (by decide), fun e => absurd e (by decide), fun e => absurd e (by decide)⟩
theorem rg_4_2 {F : ov_H} {z : ov_Z} {h : ov_H} (I : ov_I F z h) : (-2147483648) ≤ (h 4 2) ∧ (h 4 2) ≤ 2147483647 := (I.1.2.1 4 2 (by decide) (by decide)).2.2.1 rfl
theorem up_4_2 {F : ov_H} {z : ov_Z} {h : ov_H} (I : ov_I F z h) {x : Int} (hx : (-2147483648) ≤ x ∧ x ≤ 2147483647) : ov_I F z (ov_up h 4 2 x) := ov_I_up I ⟨fun q => by omega, by decide⟩ (fun e => by omega) ⟨fun e => absurd e (by decide), fun e => absurd e (by decide), fun _ => hx, fun e => absurd e (by decide), fun e => absurd e (by decide), fun e => absurd e (by decide), fun e => absurd e (by decide), fun e => absurd e (by decide), fun e => absurd e (by decide)⟩
theorem up_4_3 {F : ov_H} {z : ov_Z} {h : ov_H} (I : ov_I F z h) {x : Int} : ov_I F z (ov_up h 4 3 x) := ov_I_up I ⟨fun q => by omega, by decide⟩ (fun e => by omega) ⟨fun e => absurd e (by decide), fun e => absurd e (by decide), fun e => absurd e (by decide), fun e => absurd e (by decide), fun e => absurd e (by decide), fun e => absurd e (by decide), fun e => absurd e (by decide), fun e => absurd e (by decide), fun e => absurd e (by decide)⟩
theorem rg_4_4 {F : ov_H} {z : ov_Z} {h : ov_H} (I : ov_I F z h) : 0 ≤ (h 4 4) ∧ (h 4 4) ≤ 10 := (I.1.2.1 4 4 (by decide) (by decide)).2.2.2.1 rfl
theorem up_4_4 {F : ov_H} {z : ov_Z} {h : ov_H} (I : ov_I F z h) {x : Int} (hx : 0 ≤ x ∧ x ≤ 10) : ov_I F z (ov_up h 4 4 x) := ov_I_up I ⟨fun q => by omega, by decide⟩ (fun e => by omega) ⟨fun e => absurd e (by decide), fun e => absurd e (by decide), fun e => absurd e (by decide), fun _ => hx, fun e => absurd e (by decide), fun e => absurd e (by decide), fun e => absurd e (by decide), fun e => absurd e (by decide), fun e => absurd e (by decide)⟩
theorem rg_4_5 {F : ov_H} {z : ov_Z} {h : ov_H} (I : ov_I F z h) : 0 ≤ (h 4 5) ∧ (h 4 5) ≤ 8 := (I.1.2.1 4 5 (by decide) (by decide)).2.2.2.2.1 rfl
theorem up_4_5 {F : ov_H} {z : ov_Z} {h : ov_H} (I : ov_I F z h) {x : Int} (hx : 0 ≤ x ∧ x ≤ 8) : ov_I F z (ov_up h 4 5 x) := ov_I_up I ⟨fun q => by omega, by decide⟩ (fun e => by omega) ⟨fun e => absurd e (by decide), fun e => absurd e (by decide), fun e => absurd e (by decide), fun e => absurd e (by decide), fun _ => hx, fun e => absurd e (by decide), fun e => absurd e (by decide), fun e => absurd e (by decide), fun e => absurd e (by decide)⟩
theorem rg_4_6 {F : ov_H} {z : ov_Z} {h : ov_H} (I : ov_I F z h) : (h 4 6) = 5 := (I.1.2.1 4 6 (by decide) (by decide)).2.2.2.2.2.1 rfl
theorem up_4_6 {F : ov_H} {z : ov_Z} {h : ov_H} (I : ov_I F z h) {x : Int} (hx : x = 5) : ov_I F z (ov_up h 4 6 x) := ov_I_up I ⟨fun q => by omega, by decide⟩ (fun e => by omega) ⟨fun e => absurd e (by decide), fun e => absurd e (by decide), fun e => absurd e (by decide), fun e => absurd e (by decide), fun e => absurd e (by decide), fun _ => hx, fun e => absurd e (by decide), fun e => absurd e (by decide), fun e => absurd e (by decide)⟩
theorem rg_4_7 {F : ov_H} {z : ov_Z} {h : ov_H} (I : ov_I F z h) : (h 4 7) = 6 := (I.1.2.1 4 7 (by decide) (by decide)).2.2.2.2.2.2.1 rfl
theorem up_4_7 {F : ov_H} {z : ov_Z} {h : ov_H} (I : ov_I F z h) {x : Int} (hx : x = 6) : ov_I F z (ov_up h 4 7 x) := ov_I_up I ⟨fun q => by omega, by decide⟩ (fun e => by omega) ⟨fun e => absurd e (by decide), fun e => absurd e (by decide), fun e => absurd e (by decide), fun e => absurd e (by decide), fun e => absurd e (by decide), fun e => absurd e (by decide), fun _ => hx, fun e => absurd e (by decide), fun e => absurd e (by decide)⟩
theorem rg_4_8 {F : ov_H} {z : ov_Z} {h : ov_H} (I : ov_I F z h) : (h 4 8) = 7 := (I.1.2.1 4 8 (by decide) (by decide)).2.2.2.2.2.2.2.1 rfl
theorem up_4_8 {F : ov_H} {z : ov_Z} {h : ov_H} (I : ov_I F z h) {x : Int} (hx : x = 7) : ov_I F z (ov_up h 4 8 x) := ov_I_up I ⟨fun q => by omega, by decide⟩ (fun e => by omega) ⟨fun e => absurd e (by decide), fun e => absurd e (by decide), fun e => absurd e (by decide), fun e => absurd e (by decide), fun e => absurd e (by decide), fun e => absurd e (by decide), fun e => absurd e (by decide), fun _ => hx, fun e => absurd e (by decide)⟩
theorem rg_4_9 {F : ov_H} {z : ov_Z} {h : ov_H} (I : ov_I F z h) : (h 4 9) = 8 := (I.1.2.1 4 9 (by decide) (by decide)).2.2.2.2.2.2.2.2 rfl
theorem up_4_9 {F : ov_H} {z : ov_Z} {h : ov_H} (I : ov_I F z h) {x : Int} (hx : x = 8) : ov_I F z (ov_up h 4 9 x) := ov_I_up I ⟨fun q => by omega, by decide⟩ (fun e => by omega) ⟨fun e => absurd e (by decide), fun e => absurd e (by decide), fun e => absurd e (by decide), fun e => absurd e (by decide), fun e => absurd e (by decide), fun e => absurd e (by decide), fun e => absurd e (by decide), fun e => absurd e (by decide), fun _ => hx⟩
theorem zb_5 {F : ov_H} {z : ov_Z} {h : ov_H} (I : ov_I F z h) : 0 ≤ (5 : Int) ∧ (5 : Int) < z.1 := ⟨by decide, by have := I.1.1.1; omega⟩
theorem zs_5 {F : ov_H} {z : ov_Z} {h : ov_H} (I : ov_I F z h) : z.2.2 5 = (0, 10) := I.1.1.2 5 (by decide) (by decide)
theorem ra_5 {F : ov_H} {z : ov_Z} {h : ov_H} (I : ov_I F z h) (k : Int) : (-2147483648) ≤ (h 5 k) ∧ (h 5 k) ≤ 2147483647 := I.1.2.1 5 k (by decide) (by decide)
theorem ua_5 {F : ov_H} {z : ov_Z} {h : ov_H} (I : ov_I F z h) {k x : Int} (hx : (-2147483648) ≤ x ∧ x ≤ 2147483647) : ov_I F z (ov_up h 5 k x) := ov_I_up I ⟨fun q => by omega, by decide⟩ (fun e => by omega) hx
theorem zb_6 {F : ov_H} {z : ov_Z} {h : ov_H} (I : ov_I F z h) : 0 ≤ (6 : Int) ∧ (6 : Int) < z.1 := ⟨by decide, by have := I.1.1.1; omega⟩
theorem zs_6 {F : ov_H} {z : ov_Z} {h : ov_H} (I : ov_I F z h) : z.2.2 6 = (0, 10) := I.1.1.2 6 (by decide) (by decide)
theorem ra_6 {F : ov_H} {z : ov_Z} {h : ov_H} (I : ov_I F z h) (k : Int) : (-2147483648) ≤ (h 6 k) ∧ (h 6 k) ≤ 2147483647 := I.1.2.1 6 k (by decide) (by decide)
theorem ua_6 {F : ov_H} {z : ov_Z} {h : ov_H} (I : ov_I F z h) {k x : Int} (hx : (-2147483648) ≤ x ∧ x ≤ 2147483647) : ov_I F z (ov_up h 6 k x) := ov_I_up I ⟨fun q => by omega, by decide⟩ (fun e => by omega) hx
theorem zb_7 {F : ov_H} {z : ov_Z} {h : ov_H} (I : ov_I F z h) : 0 ≤ (7 : Int) ∧ (7 : Int) < z.1 := ⟨by decide, by have := I.1.1.1; omega⟩
theorem zs_7 {F : ov_H} {z : ov_Z} {h : ov_H} (I : ov_I F z h) : z.2.2 7 = (0, 8) := I.1.1.2 7 (by decide) (by decide)
theorem ra_7 {F : ov_H} {z : ov_Z} {h : ov_H} (I : ov_I F z h) (k : Int) : (-2147483648) ≤ (h 7 k) ∧ (h 7 k) ≤ 2147483647 := I.1.2.1 7 k (by decide) (by decide)
theorem ua_7 {F : ov_H} {z : ov_Z} {h : ov_H} (I : ov_I F z h) {k x : Int} (hx : (-2147483648) ≤ x ∧ x ≤ 2147483647) : ov_I F z (ov_up h 7 k x) := ov_I_up I ⟨fun q => by omega, by decide⟩ (fun e => by omega) hx
theorem zb_8 {F : ov_H} {z : ov_Z} {h : ov_H} (I : ov_I F z h) : 0 ≤ (8 : Int) ∧ (8 : Int) < z.1 := ⟨by decide, by have := I.1.1.1; omega⟩
theorem zs_8 {F : ov_H} {z : ov_Z} {h : ov_H} (I : ov_I F z h) : z.2.2 8 = (0, 8) := I.1.1.2 8 (by decide) (by decide)
theorem ra_8 {F : ov_H} {z : ov_Z} {h : ov_H} (I : ov_I F z h) (k : Int) : (-2147483648) ≤ (h 8 k) ∧ (h 8 k) ≤ 2147483647 := I.1.2.1 8 k (by decide) (by decide)
theorem ua_8 {F : ov_H} {z : ov_Z} {h : ov_H} (I : ov_I F z h) {k x : Int} (hx : (-2147483648) ≤ x ∧ x ≤ 2147483647) : ov_I F z (ov_up h 8 k x) := ov_I_up I ⟨fun q => by omega, by decide⟩ (fun e => by omega) hx
theorem zb_9 {F : ov_H} {z : ov_Z} {h : ov_H} (I : ov_I F z h) : 0 ≤ (9 : Int) ∧ (9 : Int) < z.1 := ⟨by decide, by have := I.1.1.1; omega⟩
theorem zs_9 {F : ov_H} {z : ov_Z} {h : ov_H} (I : ov_I F z h) : z.2.2 9 = (8, 6) := I.1.1.2 9 (by decide) (by decide)
theorem rg_9_0 {F : ov_H} {z : ov_Z} {h : ov_H} (I : ov_I F z h) : 0 ≤ (h 9 0) ∧ (h 9 0) ≤ 16 := (I.1.2.1 9 0 (by decide) (by decide)).1 rfl
theorem up_9_0 {F : ov_H} {z : ov_Z} {h : ov_H} (I : ov_I F z h) {x : Int} (hx : 0 ≤ x ∧ x ≤ 16) : ov_I F z (ov_up h 9 0 x) := ov_I_up I ⟨fun q => by omega, by decide⟩ (fun e => by omega) ⟨fun _ => hx, fun e => absurd e (by decide), fun e => absurd e (by decide), fun e => absurd e (by decide), fun e => absurd e (by decide), fun e => absurd e (by decide)⟩
theorem rg_9_1 {F : ov_H} {z : ov_Z} {h : ov_H} (I : ov_I F z h) : 0 ≤ (h 9 1) ∧ (h 9 1) ≤ 15 := (I.1.2.1 9 1 (by decide) (by decide)).2.1 rfl
theorem up_9_1 {F : ov_H} {z : ov_Z} {h : ov_H} (I : ov_I F z h) {x : Int} (hx : 0 ≤ x ∧ x ≤ 15) : ov_I F z (ov_up h 9 1 x) := ov_I_up I ⟨fun q => by omega, by decide⟩ (fun e => by omega) ⟨fun e => absurd e (by decide), fun _ => hx, fun e => absurd e (by decide), fun e => absurd e (by decide), fun e => absurd e (by decide), fun e => absurd e (by decide)⟩
theorem rg_9_2 {F : ov_H} {z : ov_Z} {h : ov_H} (I : ov_I F z h) : (h 9 2) = 10 := (I.1.2.1 9 2 (by decide) (by decide)).2.2.1 rfl
theorem up_9_2 {F : ov_H} {z : ov_Z} {h : ov_H} (I : ov_I F z h) {x : Int} (hx : x = 10) : ov_I F z (ov_up h 9 2 x) := ov_I_up I ⟨fun q => by omega, by decide⟩ (fun e => by omega) ⟨fun e => absurd e (by decide), fun e => absurd e (by decide), fun _ => hx, fun e => absurd e (by decide), fun e => absurd e (by decide), fun e => absurd e (by decide)⟩
theorem rg_9_3 {F : ov_H} {z : ov_Z} {h : ov_H} (I : ov_I F z h) : (h 9 3) = 11 := (I.1.2.1 9 3 (by decide) (by decide)).2.2.2.1 rfl
theorem up_9_3 {F : ov_H} {z : ov_Z} {h : ov_H} (I : ov_I F z h) {x : Int} (hx : x = 11) : ov_I F z (ov_up h 9 3 x) := ov_I_up I ⟨fun q => by omega, by decide⟩ (fun e => by omega) ⟨fun e => absurd e (by decide), fun e => absurd e (by decide), fun e => absurd e (by decide), fun _ => hx, fun e => absurd e (by decide), fun e => absurd e (by decide)⟩
theorem rg_9_4 {F : ov_H} {z : ov_Z} {h : ov_H} (I : ov_I F z h) : (h 9 4) = 12 := (I.1.2.1 9 4 (by decide) (by decide)).2.2.2.2.1 rfl
theorem up_9_4 {F : ov_H} {z : ov_Z} {h : ov_H} (I : ov_I F z h) {x : Int} (hx : x = 12) : ov_I F z (ov_up h 9 4 x) := ov_I_up I ⟨fun q => by omega, by decide⟩ (fun e => by omega) ⟨fun e => absurd e (by decide), fun e => absurd e (by decide), fun e => absurd e (by decide), fun e => absurd e (by decide), fun _ => hx, fun e => absurd e (by decide)⟩
theorem rg_9_5 {F : ov_H} {z : ov_Z} {h : ov_H} (I : ov_I F z h) : (h 9 5) = 13 := (I.1.2.1 9 5 (by decide) (by decide)).2.2.2.2.2 rfl
theorem up_9_5 {F : ov_H} {z : ov_Z} {h : ov_H} (I : ov_I F z h) {x : Int} (hx : x = 13) : ov_I F z (ov_up h 9 5 x) := ov_I_up I ⟨fun q => by omega, by decide⟩ (fun e => by omega) ⟨fun e => absurd e (by decide), fun e => absurd e (by decide), fun e => absurd e (by decide), fun e => absurd e (by decide), fun e => absurd e (by decide), fun _ => hx⟩
theorem zb_10 {F : ov_H} {z : ov_Z} {h : ov_H} (I : ov_I F z h) : 0 ≤ (10 : Int) ∧ (10 : Int) < z.1 := ⟨by decide, by have := I.1.1.1; omega⟩
theorem zs_10 {F : ov_H} {z : ov_Z} {h : ov_H} (I : ov_I F z h) : z.2.2 10 = (0, 16) := I.1.1.2 10 (by decide) (by decide)
theorem ra_10 {F : ov_H} {z : ov_Z} {h : ov_H} (I : ov_I F z h) (k : Int) : 0 ≤ (h 10 k) ∧ (h 10 k) ≤ 53 := I.1.2.1 10 k (by decide) (by decide)
theorem ua_10 {F : ov_H} {z : ov_Z} {h : ov_H} (I : ov_I F z h) {k x : Int} (hx : 0 ≤ x ∧ x ≤ 53) : ov_I F z (ov_up h 10 k x) := ov_I_up I ⟨fun q => by omega, by decide⟩ (fun e => by omega) hx
theorem zb_11 {F : ov_H} {z : ov_Z} {h : ov_H} (I : ov_I F z h) : 0 ≤ (11 : Int) ∧ (11 : Int) < z.1 := ⟨by decide, by have := I.1.1.1; omega⟩
theorem zs_11 {F : ov_H} {z : ov_Z} {h : ov_H} (I : ov_I F z h) : z.2.2 11 = (0, 16) := I.1.1.2 11 (by decide) (by decide)
theorem ra_11 {F : ov_H} {z : ov_Z} {h : ov_H} (I : ov_I F z h) (k : Int) : (-2147483648) ≤ (h 11 k) ∧ (h 11 k) ≤ 2147483647 := I.1.2.1 11 k (by decide) (by decide)
theorem ua_11 {F : ov_H} {z : ov_Z} {h : ov_H} (I : ov_I F z h) {k x : Int} (hx : (-2147483648) ≤ x ∧ x ≤ 2147483647) : ov_I F z (ov_up h 11 k x) := ov_I_up I ⟨fun q => by omega, by decide⟩ (fun e => by omega) hx
theorem zb_12 {F : ov_H} {z : ov_Z} {h : ov_H} (I : ov_I F z h) : 0 ≤ (12 : Int) ∧ (12 : Int) < z.1 := ⟨by decide, by have := I.1.1.1; omega⟩
theorem zs_12 {F : ov_H} {z : ov_Z} {h : ov_H} (I : ov_I F z h) : z.2.2 12 = (0, 16) := I.1.1.2 12 (by decide) (by decide)
theorem ra_12 {F : ov_H} {z : ov_Z} {h : ov_H} (I : ov_I F z h) (k : Int) : (-2147483648) ≤ (h 12 k) ∧ (h 12 k) ≤ 2147483647 := I.1.2.1 12 k (by decide) (by decide)
theorem ua_12 {F : ov_H} {z : ov_Z} {h : ov_H} (I : ov_I F z h) {k x : Int} (hx : (-2147483648) ≤ x ∧ x ≤ 2147483647) : ov_I F z (ov_up h 12 k x) := ov_I_up I ⟨fun q => by omega, by decide⟩ (fun e => by omega) hx
theorem zb_13 {F : ov_H} {z : ov_Z} {h : ov_H} (I : ov_I F z h) : 0 ≤ (13 : Int) ∧ (13 : Int) < z.1 := ⟨by decide, by have := I.1.1.1; omega⟩
theorem zs_13 {F : ov_H} {z : ov_Z} {h : ov_H} (I : ov_I F z h) : z.2.2 13 = (1, 16) := I.1.1.2 13 (by decide) (by decide)
theorem ua_13 {F : ov_H} {z : ov_Z} {h : ov_H} (I : ov_I F z h) {k x : Int} : ov_I F z (ov_up h 13 k x) := ov_I_up I ⟨fun q => by omega, by decide⟩ (fun e => by omega) trivial
theorem zb_14 {F : ov_H} {z : ov_Z} {h : ov_H} (I : ov_I F z h) : 0 ≤ (14 : Int) ∧ (14 : Int) < z.1 := ⟨by decide, by have := I.1.1.1; omega⟩
theorem zs_14 {F : ov_H} {z : ov_Z} {h : ov_H} (I : ov_I F z h) : z.2.2 14 = (4, 4) := I.1.1.2 14 (by decide) (by decide)
theorem ra_14 {F : ov_H} {z : ov_Z} {h : ov_H} (I : ov_I F z h) (k : Int) : (k = 0 → (h 14 k) = 15) ∧ (k = 1 → (h 14 k) = 20) ∧ (k = 2 → (h 14 k) = 25) ∧ (k = 3 → (h 14 k) = 30) := I.1.2.1 14 k (by decide) (by decide)
theorem ua_14 {F : ov_H} {z : ov_Z} {h : ov_H} (I : ov_I F z h) {k x : Int} (hx : (k = 0 → x = 15) ∧ (k = 1 → x = 20) ∧ (k = 2 → x = 25) ∧ (k = 3 → x = 30)) : ov_I F z (ov_up h 14 k x) := ov_I_up I ⟨fun q => by omega, by decide⟩ (fun e => by omega) hx
theorem zb_15 {F : ov_H} {z : ov_Z} {h : ov_H} (I : ov_I F z h) : 0 ≤ (15 : Int) ∧ (15 : Int) < z.1 := ⟨by decide, by have := I.1.1.1; omega⟩
theorem zs_15 {F : ov_H} {z : ov_Z} {h : ov_H} (I : ov_I F z h) : z.2.2 15 = (12, 10) := I.1.1.2 15 (by decide) (by decide)
theorem rg_15_0 {F : ov_H} {z : ov_Z} {h : ov_H} (I : ov_I F z h) : 0 ≤ (h 15 0) ∧ (h 15 0) ≤ 53 := (I.1.2.1 15 0 (by decide) (by decide)).1 rfl
theorem up_15_0 {F : ov_H} {z : ov_Z} {h : ov_H} (I : ov_I F z h) {x : Int} (hx : 0 ≤ x ∧ x ≤ 53) : ov_I F z (ov_up h 15 0 x) := ov_I_up I ⟨fun q => by omega, by decide⟩ (fun e => by omega) ⟨fun _ => hx, fun e => absurd e (by decide), fun e => absurd e (by decide), fun e => absurd e (by decide), fun e => absurd e (by decide), fun e => absurd e (by decide), fun e => absurd e (by decide), fun e => absurd e (by decide), fun e => absurd e (by decide)⟩
theorem rg_15_1 {F : ov_H} {z : ov_Z} {h : ov_H} (I : ov_I F z h) : (-2147483648) ≤ (h 15 1) ∧ (h 15 1) ≤ 2147483647 := (I.1.2.1 15 1 (by decide) (by decide)).2.1 rfl
theorem up_15_1 {F : ov_H} {z : ov_Z} {h : ov_H} (I : ov_I F z h) {x : Int} (hx : (-2147483648) ≤ x ∧ x ≤ 2147483647) : ov_I F z (ov_up h 15 1 x) := ov_I_up I ⟨fun q => by omega, by decide⟩ (fun e => by omega) ⟨fun e => absurd e (by decide), fun _ => hx, fun e => absurd e (by decide), fun e => absurd e (by decide), fun e => absurd e (by decide), fun e => absurd e (by decide), fun e => absurd e (by decide), fun e => absurd e (by decide), fun e => absurd e (by decide)⟩
theorem rg_15_2 {F : ov_H} {z : ov_Z} {h : ov_H} (I : ov_I F z h) : (-2147483648) ≤ (h 15 2) ∧ (h 15 2) ≤ 2147483647 := (I.1.2.1 15 2 (by decide) (by decide)).2.2.1 rfl
theorem up_15_2 {F : ov_H} {z : ov_Z} {h : ov_H} (I : ov_I F z h) {x : Int} (hx : (-2147483648) ≤ x ∧ x ≤ 2147483647) : ov_I F z (ov_up h 15 2 x) := ov_I_up I ⟨fun q => by omega, by decide⟩ (fun e => by omega) ⟨fun e => absurd e (by decide), fun e => absurd e (by decide), fun _ => hx, fun e => absurd e (by decide), fun e => absurd e (by decide), fun e => absurd e (by decide), fun e => absurd e (by decide), fun e => absurd e (by decide), fun e => absurd e (by decide)⟩
theorem up_15_3 {F : ov_H} {z : ov_Z} {h : ov_H} (I : ov_I F z h) {x : Int} : ov_I F z (ov_up h 15 3 x) := ov_I_up I ⟨fun q => by omega, by decide⟩ (fun e => by omega) ⟨fun e => absurd e (by decide), fun e => absurd e (by decide), fun e => absurd e (by decide), fun e => absurd e (by decide), fun e => absurd e (by decide), fun e => absurd e (by decide), fun e => absurd e (by decide), fun e => absurd e (by decide), fun e => absurd e (by decide)⟩
theorem rg_15_4 {F : ov_H} {z : ov_Z} {h : ov_H} (I : ov_I F z h) : 0 ≤ (h 15 4) ∧ (h 15 4) ≤ 10 := (I.1.2.1 15 4 (by decide) (by decide)).2.2.2.1 rfl
theorem up_15_4 {F : ov_H} {z : ov_Z} {h : ov_H} (I : ov_I F z h) {x : Int} (hx : 0 ≤ x ∧ x ≤ 10) : ov_I F z (ov_up h 15 4 x) := ov_I_up I ⟨fun q => by omega, by decide⟩ (fun e => by omega) ⟨fun e => absurd e (by decide), fun e => absurd e (by decide), fun e => absurd e (by decide), fun _ => hx, fun e => absurd e (by decide), fun e => absurd e (by decide), fun e => absurd e (by decide), fun e => absurd e (by decide), fun e => absurd e (by decide)⟩
theorem rg_15_5 {F : ov_H} {z : ov_Z} {h : ov_H} (I : ov_I F z h) : 0 ≤ (h 15 5) ∧ (h 15 5) ≤ 8 := (I.1.2.1 15 5 (by decide) (by decide)).2.2.2.2.1 rfl
theorem up_15_5 {F : ov_H} {z : ov_Z} {h : ov_H} (I : ov_I F z h) {x : Int} (hx : 0 ≤ x ∧ x ≤ 8) : ov_I F z (ov_up h 15 5 x) := ov_I_up I ⟨fun q => by omega, by decide⟩ (fun e => by omega) ⟨fun e => absurd e (by decide), fun e => absurd e (by decide), fun e => absurd e (by decide), fun e => absurd e (by decide), fun _ => hx, fun e => absurd e (by decide), fun e => absurd e (by decide), fun e => absurd e (by decide), fun e => absurd e (by decide)⟩
theorem rg_15_6 {F : ov_H} {z : ov_Z} {h : ov_H} (I : ov_I F z h) : (h 15 6) = 16 := (I.1.2.1 15 6 (by decide) (by decide)).2.2.2.2.2.1 rfl
theorem up_15_6 {F : ov_H} {z : ov_Z} {h : ov_H} (I : ov_I F z h) {x : Int} (hx : x = 16) : ov_I F z (ov_up h 15 6 x) := ov_I_up I ⟨fun q => by omega, by decide⟩ (fun e => by omega) ⟨fun e => absurd e (by decide), fun e => absurd e (by decide), fun e => absurd e (by decide), fun e => absurd e (by decide), fun e => absurd e (by decide), fun _ => hx, fun e => absurd e (by decide), fun e => absurd e (by decide), fun e => absurd e (by decide)⟩
theorem rg_15_7 {F : ov_H} {z : ov_Z} {h : ov_H} (I : ov_I F z h) : (h 15 7) = 17 := (I.1.2.1 15 7 (by decide) (by decide)).2.2.2.2.2.2.1 rfl
theorem up_15_7 {F : ov_H} {z : ov_Z} {h : ov_H} (I : ov_I F z h) {x : Int} (hx : x = 17) : ov_I F z (ov_up h 15 7 x) := ov_I_up I ⟨fun q => by omega, by decide⟩ (fun e => by omega) ⟨fun e => absurd e (by decide), fun e => absurd e (by decide), fun e => absurd e (by decide), fun e => absurd e (by decide), fun e => absurd e (by decide), fun e => absurd e (by decide), fun _ => hx, fun e => absurd e (by decide), fun e => absurd e (by decide)⟩
theorem rg_15_8 {F : ov_H} {z : ov_Z} {h : ov_H} (I : ov_I F z h) : (h 15 8) = 18 := (I.1.2.1 15 8 (by decide) (by decide)).2.2.2.2.2.2.2.1 rfl
theorem up_15_8 {F : ov_H} {z : ov_Z} {h : ov_H} (I : ov_I F z h) {x : Int} (hx : x = 18) : ov_I F z (ov_up h 15 8 x) := ov_I_up I ⟨fun q => by omega, by decide⟩ (fun e => by omega) ⟨fun e => absurd e (by decide), fun e => absurd e (by decide), fun e => absurd e (by decide), fun e => absurd e (by decide), fun e => absurd e (by decide), fun e => absurd e (by decide), fun e => absurd e (by decide), fun _ => hx, fun e => absurd e (by decide)⟩
theorem rg_15_9 {F : ov_H} {z : ov_Z} {h : ov_H} (I : ov_I F z h) : (h 15 9) = 19 := (I.1.2.1 15 9 (by decide) (by decide)).2.2.2.2.2.2.2.2 rfl
theorem up_15_9 {F : ov_H} {z : ov_Z} {h : ov_H} (I : ov_I F z h) {x : Int} (hx : x = 19) : ov_I F z (ov_up h 15 9 x) := ov_I_up I ⟨fun q => by omega, by decide⟩ (fun e => by omega) ⟨fun e => absurd e (by decide), fun e => absurd e (by decide), fun e => absurd e (by decide), fun e => absurd e (by decide), fun e => absurd e (by decide), fun e => absurd e (by decide), fun e => absurd e (by decide), fun e => absurd e (by decide), fun _ => hx⟩
theorem zb_16 {F : ov_H} {z : ov_Z} {h : ov_H} (I : ov_I F z h) : 0 ≤ (16 : Int) ∧ (16 : Int) < z.1 := ⟨by decide, by have := I.1.1.1; omega⟩
theorem zs_16 {F : ov_H} {z : ov_Z} {h : ov_H} (I : ov_I F z h) : z.2.2 16 = (0, 10) := I.1.1.2 16 (by decide) (by decide)
theorem ra_16 {F : ov_H} {z : ov_Z} {h : ov_H} (I : ov_I F z h) (k : Int) : (-2147483648) ≤ (h 16 k) ∧ (h 16 k) ≤ 2147483647 := I.1.2.1 16 k (by decide) (by decide)
theorem ua_16 {F : ov_H} {z : ov_Z} {h : ov_H} (I : ov_I F z h) {k x : Int} (hx : (-2147483648) ≤ x ∧ x ≤ 2147483647) : ov_I F z (ov_up h 16 k x) := ov_I_up I ⟨fun q => by omega, by decide⟩ (fun e => by omega) hx
theorem zb_17 {F : ov_H} {z : ov_Z} {h : ov_H} (I : ov_I F z h) : 0 ≤ (17 : Int) ∧ (17 : Int) < z.1 := ⟨by decide, by have := I.1.1.1; omega⟩
theorem zs_17 {F : ov_H} {z : ov_Z} {h : ov_H} (I : ov_I F z h) : z.2.2 17 = (0, 10) := I.1.1.2 17 (by decide) (by decide)
theorem ra_17 {F : ov_H} {z : ov_Z} {h : ov_H} (I : ov_I F z h) (k : Int) : (-2147483648) ≤ (h 17 k) ∧ (h 17 k) ≤ 2147483647 := I.1.2.1 17 k (by decide) (by decide)
theorem ua_17 {F : ov_H} {z : ov_Z} {h : ov_H} (I : ov_I F z h) {k x : Int} (hx : (-2147483648) ≤ x ∧ x ≤ 2147483647) : ov_I F z (ov_up h 17 k x) := ov_I_up I ⟨fun q => by omega, by decide⟩ (fun e => by omega) hx
theorem zb_18 {F : ov_H} {z : ov_Z} {h : ov_H} (I : ov_I F z h) : 0 ≤ (18 : Int) ∧ (18 : Int) < z.1 := ⟨by decide, by have := I.1.1.1; omega⟩
theorem zs_18 {F : ov_H} {z : ov_Z} {h : ov_H} (I : ov_I F z h) : z.2.2 18 = (0, 8) := I.1.1.2 18 (by decide) (by decide)
theorem ra_18 {F : ov_H} {z : ov_Z} {h : ov_H} (I : ov_I F z h) (k : Int) : (-2147483648) ≤ (h 18 k) ∧ (h 18 k) ≤ 2147483647 := I.1.2.1 18 k (by decide) (by decide)
theorem ua_18 {F : ov_H} {z : ov_Z} {h : ov_H} (I : ov_I F z h) {k x : Int} (hx : (-2147483648) ≤ x ∧ x ≤ 2147483647) : ov_I F z (ov_up h 18 k x) := ov_I_up I ⟨fun q => by omega, by decide⟩ (fun e => by omega) hx
theorem zb_19 {F : ov_H} {z : ov_Z} {h : ov_H} (I : ov_I F z h) : 0 ≤ (19 : Int) ∧ (19 : Int) < z.1 := ⟨by decide, by have := I.1.1.1; omega⟩
theorem zs_19 {F : ov_H} {z : ov_Z} {h : ov_H} (I : ov_I F z h) : z.2.2 19 = (0, 8) := I.1.1.2 19 (by decide) (by decide)
theorem ra_19 {F : ov_H} {z : ov_Z} {h : ov_H} (I : ov_I F z h) (k : Int) : (-2147483648) ≤ (h 19 k) ∧ (h 19 k) ≤ 2147483647 := I.1.2.1 19 k (by decide) (by decide)
theorem ua_19 {F : ov_H} {z : ov_Z} {h : ov_H} (I : ov_I F z h) {k x : Int} (hx : (-2147483648) ≤ x ∧ x ≤ 2147483647) : ov_I F z (ov_up h 19 k x) := ov_I_up I ⟨fun q => by omega, by decide⟩ (fun e => by omega) hx
theorem zb_20 {F : ov_H} {z : ov_Z} {h : ov_H} (I : ov_I F z h) : 0 ≤ (20 : Int) ∧ (20 : Int) < z.1 := ⟨by decide, by have := I.1.1.1; omega⟩
theorem zs_20 {F : ov_H} {z : ov_Z} {h : ov_H} (I : ov_I F z h) : z.2.2 20 = (12, 10) := I.1.1.2 20 (by decide) (by decide)
theorem rg_20_0 {F : ov_H} {z : ov_Z} {h : ov_H} (I : ov_I F z h) : 0 ≤ (h 20 0) ∧ (h 20 0) ≤ 53 := (I.1.2.1 20 0 (by decide) (by decide)).1 rfl
theorem up_20_0 {F : ov_H} {z : ov_Z} {h : ov_H} (I : ov_I F z h) {x : Int} (hx : 0 ≤ x ∧ x ≤ 53) : ov_I F z (ov_up h 20 0 x) := ov_I_up I ⟨fun q => by omega, by decide⟩ (fun e => by omega) ⟨fun _ => hx, fun e => absurd e (by decide), fun e => absurd e (by decide), fun e => absurd e (by decide), fun e => absurd e (by decide), fun e => absurd e (by decide), fun e => absurd e (by decide), fun e => absurd e (by decide), fun e => absurd e (by decide)⟩
theorem rg_20_1 {F : ov_H} {z : ov_Z} {h : ov_H} (I : ov_I F z h) : (-2147483648) ≤ (h 20 1) ∧ (h 20 1) ≤ 2147483647 := (I.1.2.1 20 1 (by decide) (by decide)).2.1 rfl
theorem up_20_1 {F : ov_H} {z : ov_Z} {h : ov_H} (I : ov_I F z h) {x : Int} (hx : (-2147483648) ≤ x ∧ x ≤ 2147483647) : ov_I F z (ov_up h 20 1 x) := ov_I_up I ⟨fun q => by omega, by decide⟩ (fun e => by omega) ⟨fun e => absurd e (by decide), fun _ => hx, fun e => absurd e (by decide), fun e => absurd e (by decide), fun e => absurd e (by decide), fun e => absurd e (by decide), fun e => absurd e (by decide), fun e => absurd e (by decide), fun e => absurd e (by decide)⟩
theorem rg_20_2 {F : ov_H} {z : ov_Z} {h : ov_H} (I : ov_I F z h) : (-2147483648) ≤ (h 20 2) ∧ (h 20 2) ≤ 2147483647 := (I.1.2.1 20 2 (by decide) (by decide)).2.2.1 rfl
theorem up_20_2 {F : ov_H} {z : ov_Z} {h : ov_H} (I : ov_I F z h) {x : Int} (hx : (-2147483648) ≤ x ∧ x ≤ 2147483647) : ov_I F z (ov_up h 20 2 x) := ov_I_up I ⟨fun q => by omega, by decide⟩ (fun e => by omega) ⟨fun e => absurd e (by decide), fun e => absurd e (by decide), fun _ => hx, fun e => absurd e (by decide), fun e => absurd e (by decide), fun e => absurd e (by decide), fun e => absurd e (by decide), fun e => absurd e (by decide), fun e => absurd e (by decide)⟩
theorem up_20_3 {F : ov_H} {z : ov_Z} {h : ov_H} (I : ov_I F z h) {x : Int} : ov_I F z (ov_up h 20 3 x) := ov_I_up I ⟨fun q => by omega, by decide⟩ (fun e => by omega) ⟨fun e => absurd e (by decide), fun e => absurd e (by decide), fun e => absurd e (by decide), fun e => absurd e (by decide), fun e => absurd e (by decide), fun e => absurd e (by decide), fun e => absurd e (by decide), fun e => absurd e (by decide), fun e => absurd e (by decide)⟩
theorem rg_20_4 {F : ov_H} {z : ov_Z} {h : ov_H} (I : ov_I F z h) : 0 ≤ (h 20 4) ∧ (h 20 4) ≤ 10 := (I.1.2.1 20 4 (by decide) (by decide)).2.2.2.1 rfl
theorem up_20_4 {F : ov_H} {z : ov_Z} {h : ov_H} (I : ov_I F z h) {x : Int} (hx : 0 ≤ x ∧ x ≤ 10) : ov_I F z (ov_up h 20 4 x) := ov_I_up I ⟨fun q => by omega, by decide⟩ (fun e => by omega) ⟨fun e => absurd e (by decide), fun e => absurd e (by decide), fun e => absurd e (by decide), fun _ => hx, fun e => absurd e (by decide), fun e => absurd e (by decide), fun e => absurd e (by decide), fun e => absurd e (by decide), fun e => absurd e (by decide)⟩
theorem rg_20_5 {F : ov_H} {z : ov_Z} {h : ov_H} (I : ov_I F z h) : 0 ≤ (h 20 5) ∧ (h 20 5) ≤ 8 := (I.1.2.1 20 5 (by decide) (by decide)).2.2.2.2.1 rfl
theorem up_20_5 {F : ov_H} {z : ov_Z} {h : ov_H} (I : ov_I F z h) {x : Int} (hx : 0 ≤ x ∧ x ≤ 8) : ov_I F z (ov_up h 20 5 x) := ov_I_up I ⟨fun q => by omega, by decide⟩ (fun e => by omega) ⟨fun e => absurd e (by decide), fun e => absurd e (by decide), fun e => absurd e (by decide), fun e => absurd e (by decide), fun _ => hx, fun e => absurd e (by decide), fun e => absurd e (by decide), fun e => absurd e (by decide), fun e => absurd e (by decide)⟩
theorem rg_20_6 {F : ov_H} {z : ov_Z} {h : ov_H} (I : ov_I F z h) : (h 20 6) = 21 := (I.1.2.1 20 6 (by decide) (by decide)).2.2.2.2.2.1 rfl
theorem up_20_6 {F : ov_H} {z : ov_Z} {h : ov_H} (I : ov_I F z h) {x : Int} (hx : x = 21) : ov_I F z (ov_up h 20 6 x) := ov_I_up I ⟨fun q => by omega, by decide⟩ (fun e => by omega) ⟨fun e => absurd e (by decide), fun e => absurd e (by decide), fun e => absurd e (by decide), fun e => absurd e (by decide), fun e => absurd e (by decide), fun _ => hx, fun e => absurd e (by decide), fun e => absurd e (by decide), fun e => absurd e (by decide)⟩
theorem rg_20_7 {F : ov_H} {z : ov_Z} {h : ov_H} (I : ov_I F z h) : (h 20 7) = 22 := (I.1.2.1 20 7 (by decide) (by decide)).2.2.2.2.2.2.1 rfl
theorem up_20_7 {F : ov_H} {z : ov_Z} {h : ov_H} (I : ov_I F z h) {x : Int} (hx : x = 22) : ov_I F z (ov_up h 20 7 x) := ov_I_up I ⟨fun q => by omega, by decide⟩ (fun e => by omega) ⟨fun e => absurd e (by decide), fun e => absurd e (by decide), fun e => absurd e (by decide), fun e => absurd e (by decide), fun e => absurd e (by decide), fun e => absurd e (by decide), fun _ => hx, fun e => absurd e (by decide), fun e => absurd e (by decide)⟩
theorem rg_20_8 {F : ov_H} {z : ov_Z} {h : ov_H} (I : ov_I F z h) : (h 20 8) = 23 := (I.1.2.1 20 8 (by decide) (by decide)).2.2.2.2.2.2.2.1 rfl
theorem up_20_8 {F : ov_H} {z : ov_Z} {h : ov_H} (I : ov_I F z h) {x : Int} (hx : x = 23) : ov_I F z (ov_up h 20 8 x) := ov_I_up I ⟨fun q => by omega, by decide⟩ (fun e => by omega) ⟨fun e => absurd e (by decide), fun e => absurd e (by decide), fun e => absurd e (by decide), fun e => absurd e (by decide), fun e => absurd e (by decide), fun e => absurd e (by decide), fun e => absurd e (by decide), fun _ => hx, fun e => absurd e (by decide)⟩
theorem rg_20_9 {F : ov_H} {z : ov_Z} {h : ov_H} (I : ov_I F z h) : (h 20 9) = 24 := (I.1.2.1 20 9 (by decide) (by decide)).2.2.2.2.2.2.2.2 rfl
theorem up_20_9 {F : ov_H} {z : ov_Z} {h : ov_H} (I : ov_I F z h) {x : Int} (hx : x = 24) : ov_I F z (ov_up h 20 9 x) := ov_I_up I ⟨fun q => by omega, by decide⟩ (fun e => by omega) ⟨fun e => absurd e (by decide), fun e => absurd e (by decide), fun e => absurd e (by decide), fun e => absurd e (by decide), fun e => absurd e (by decide), fun e => absurd e (by decide), fun e => absurd e (by decide), fun e => absurd e (by decide), fun _ => hx⟩
theorem zb_21 {F : ov_H} {z : ov_Z} {h : ov_H} (I : ov_I F z h) : 0 ≤ (21 : Int) ∧ (21 : Int) < z.1 := ⟨by decide, by have := I.1.1.1; omega⟩
theorem zs_21 {F : ov_H} {z : ov_Z} {h : ov_H} (I : ov_I F z h) : z.2.2 21 = (0, 10) := I.1.1.2 21 (by decide) (by decide)
theorem ra_21 {F : ov_H} {z : ov_Z} {h : ov_H} (I : ov_I F z h) (k : Int) : (-2147483648) ≤ (h 21 k) ∧ (h 21 k) ≤ 2147483647 := I.1.2.1 21 k (by decide) (by decide)
theorem ua_21 {F : ov_H} {z : ov_Z} {h : ov_H} (I : ov_I F z h) {k x : Int} (hx : (-2147483648) ≤ x ∧ x ≤ 2147483647) : ov_I F z (ov_up h 21 k x) := ov_I_up I ⟨fun q => by omega, by decide⟩ (fun e => by omega) hx
theorem zb_22 {F : ov_H} {z : ov_Z} {h : ov_H} (I : ov_I F z h) : 0 ≤ (22 : Int) ∧ (22 : Int) < z.1 := ⟨by decide, by have := I.1.1.1; omega⟩
theorem zs_22 {F : ov_H} {z : ov_Z} {h : ov_H} (I : ov_I F z h) : z.2.2 22 = (0, 10) := I.1.1.2 22 (by decide) (by decide)
theorem ra_22 {F : ov_H} {z : ov_Z} {h : ov_H} (I : ov_I F z h) (k : Int) : (-2147483648) ≤ (h 22 k) ∧ (h 22 k) ≤ 2147483647 := I.1.2.1 22 k (by decide) (by decide)
theorem ua_22 {F : ov_H} {z : ov_Z} {h : ov_H} (I : ov_I F z h) {k x : Int} (hx : (-2147483648) ≤ x ∧ x ≤ 2147483647) : ov_I F z (ov_up h 22 k x) := ov_I_up I ⟨fun q => by omega, by decide⟩ (fun e => by omega) hx
theorem zb_23 {F : ov_H} {z : ov_Z} {h : ov_H} (I : ov_I F z h) : 0 ≤ (23 : Int) ∧ (23 : Int) < z.1 := ⟨by decide, by have := I.1.1.1; omega⟩
theorem zs_23 {F : ov_H} {z : ov_Z} {h : ov_H} (I : ov_I F z h) : z.2.2 23 = (0, 8) := I.1.1.2 23 (by decide) (by decide)
theorem ra_23 {F : ov_H} {z : ov_Z} {h : ov_H} (I : ov_I F z h) (k : Int) : (-2147483648) ≤ (h 23 k) ∧ (h 23 k) ≤ 2147483647 := I.1.2.1 23 k (by decide) (by decide)
theorem ua_23 {F : ov_H} {z : ov_Z} {h : ov_H} (I : ov_I F z h) {k x : Int} (hx : (-2147483648) ≤ x ∧ x ≤ 2147483647) : ov_I F z (ov_up h 23 k x) := ov_I_up I ⟨fun q => by omega, by decide⟩ (fun e => by omega) hx
theorem zb_24 {F : ov_H} {z : ov_Z} {h : ov_H} (I : ov_I F z h) : 0 ≤ (24 : Int) ∧ (24 : Int) < z.1 := ⟨by decide, by have := I.1.1.1; omega⟩
theorem zs_24 {F : ov_H} {z : ov_Z} {h : ov_H} (I : ov_I F z h) : z.2.2 24 = (0, 8) := I.1.1.2 24 (by decide) (by decide)
theorem ra_24 {F : ov_H} {z : ov_Z} {h : ov_H} (I : ov_I F z h) (k : Int) : (-2147483648) ≤ (h 24 k) ∧ (h 24 k) ≤ 2147483647 := I.1.2.1 24 k (by decide) (by decide)
theorem ua_24 {F : ov_H} {z : ov_Z} {h : ov_H} (I : ov_I F z h) {k x : Int} (hx : (-2147483648) ≤ x ∧ x ≤ 2147483647) : ov_I F z (ov_up h 24 k x) := ov_I_up I ⟨fun q => by omega, by decide⟩ (fun e => by omega) hx
theorem zb_25 {F : ov_H} {z : ov_Z} {h : ov_H} (I : ov_I F z h) : 0 ≤ (25 : Int) ∧ (25 : Int) < z.1 := ⟨by decide, by have := I.1.1.1; omega⟩
theorem zs_25 {F : ov_H} {z : ov_Z} {h : ov_H} (I : ov_I F z h) : z.2.2 25 = (12, 10) := I.1.1.2 25 (by decide) (by decide)
theorem rg_25_0 {F : ov_H} {z : ov_Z} {h : ov_H} (I : ov_I F z h) : 0 ≤ (h 25 0) ∧ (h 25 0) ≤ 53 := (I.1.2.1 25 0 (by decide) (by decide)).1 rfl
theorem up_25_0 {F : ov_H} {z : ov_Z} {h : ov_H} (I : ov_I F z h) {x : Int} (hx : 0 ≤ x ∧ x ≤ 53) : ov_I F z (ov_up h 25 0 x) := ov_I_up I ⟨fun q => by omega, by decide⟩ (fun e => by omega) ⟨fun _ => hx, fun e => absurd e (by decide), fun e => absurd e (by decide), fun e => absurd e (by decide), fun e => absurd e (by decide), fun e => absurd e (by decide), fun e => absurd e (by decide), fun e => absurd e (by decide), fun e => absurd e (by decide)⟩
theorem rg_25_1 {F : ov_H} {z : ov_Z} {h : ov_H} (I : ov_I F z h) : (-2147483648) ≤ (h 25 1) ∧ (h 25 1) ≤ 2147483647 := (I.1.2.1 25 1 (by decide) (by decide)).2.1 rfl
theorem up_25_1 {F : ov_H} {z : ov_Z} {h : ov_H} (I : ov_I F z h) {x : Int} (hx : (-2147483648) ≤ x ∧ x ≤ 2147483647) : ov_I F z (ov_up h 25 1 x) := ov_I_up I ⟨fun q => by omega, by decide⟩ (fun e => by omega) ⟨fun e => absurd e (by decide), fun _ => hx, fun e => absurd e (by decide), fun e => absurd e (by decide), fun e => absurd e (by decide), fun e => absurd e (by decide), fun e => absurd e (by decide), fun e => absurd e (by decide), fun e => absurd e (by decide)⟩
theorem rg_25_2 {F : ov_H} {z : ov_Z} {h : ov_H} (I : ov_I F z h) : (-2147483648) ≤ (h 25 2) ∧ (h 25 2) ≤ 2147483647 := (I.1.2.1 25 2 (by decide) (by decide)).2.2.1 rfl
theorem up_25_2 {F : ov_H} {z : ov_Z} {h : ov_H} (I : ov_I F z h) {x : Int} (hx : (-2147483648) ≤ x ∧ x ≤ 2147483647) : ov_I F z (ov_up h 25 2 x) := ov_I_up I ⟨fun q => by omega, by decide⟩ (fun e => by omega) ⟨fun e => absurd e (by decide), fun e => absurd e (by decide), fun _ => hx, fun e => absurd e (by decide), fun e => absurd e (by decide), fun e => absurd e (by decide), fun e => absurd e (by decide), fun e => absurd e (by decide), fun e => absurd e (by decide)⟩
theorem up_25_3 {F : ov_H} {z : ov_Z} {h : ov_H} (I : ov_I F z h) {x : Int} : ov_I F z (ov_up h 25 3 x) := ov_I_up I ⟨fun q => by omega, by decide⟩ (fun e => by omega) ⟨fun e => absurd e (by decide), fun e => absurd e (by decide), fun e => absurd e (by decide), fun e => absurd e (by decide), fun e => absurd e (by decide), fun e => absurd e (by decide), fun e => absurd e (by decide), fun e => absurd e (by decide), fun e => absurd e (by decide)⟩
theorem rg_25_4 {F : ov_H} {z : ov_Z} {h : ov_H} (I : ov_I F z h) : 0 ≤ (h 25 4) ∧ (h 25 4) ≤ 10 := (I.1.2.1 25 4 (by decide) (by decide)).2.2.2.1 rfl
theorem up_25_4 {F : ov_H} {z : ov_Z} {h : ov_H} (I : ov_I F z h) {x : Int} (hx : 0 ≤ x ∧ x ≤ 10) : ov_I F z (ov_up h 25 4 x) := ov_I_up I ⟨fun q => by omega, by decide⟩ (fun e => by omega) ⟨fun e => absurd e (by decide), fun e => absurd e (by decide), fun e => absurd e (by decide), fun _ => hx, fun e => absurd e (by decide), fun e => absurd e (by decide), fun e => absurd e (by decide), fun e => absurd e (by decide), fun e => absurd e (by decide)⟩
theorem rg_25_5 {F : ov_H} {z : ov_Z} {h : ov_H} (I : ov_I F z h) : 0 ≤ (h 25 5) ∧ (h 25 5) ≤ 8 := (I.1.2.1 25 5 (by decide) (by decide)).2.2.2.2.1 rfl
theorem up_25_5 {F : ov_H} {z : ov_Z} {h : ov_H} (I : ov_I F z h) {x : Int} (hx : 0 ≤ x ∧ x ≤ 8) : ov_I F z (ov_up h 25 5 x) := ov_I_up I ⟨fun q => by omega, by decide⟩ (fun e => by omega) ⟨fun e => absurd e (by decide), fun e => absurd e (by decide), fun e => absurd e (by decide), fun e => absurd e (by decide), fun _ => hx, fun e => absurd e (by decide), fun e => absurd e (by decide), fun e => absurd e (by decide), fun e => absurd e (by decide)⟩
theorem rg_25_6 {F : ov_H} {z : ov_Z} {h : ov_H} (I : ov_I F z h) : (h 25 6) = 26 := (I.1.2.1 25 6 (by decide) (by decide)).2.2.2.2.2.1 rfl
theorem up_25_6 {F : ov_H} {z : ov_Z} {h : ov_H} (I : ov_I F z h) {x : Int} (hx : x = 26) : ov_I F z (ov_up h 25 6 x) := ov_I_up I ⟨fun q => by omega, by decide⟩ (fun e => by omega) ⟨fun e => absurd e (by decide), fun e => absurd e (by decide), fun e => absurd e (by decide), fun e => absurd e (by decide), fun e => absurd e (by decide), fun _ => hx, fun e => absurd e (by decide), fun e => absurd e (by decide), fun e => absurd e (by decide)⟩
theorem rg_25_7 {F : ov_H} {z : ov_Z} {h : ov_H} (I : ov_I F z h) : (h 25 7) = 27 := (I.1.2.1 25 7 (by decide) (by decide)).2.2.2.2.2.2.1 rfl
theorem up_25_7 {F : ov_H} {z : ov_Z} {h : ov_H} (I : ov_I F z h) {x : Int} (hx : x = 27) : ov_I F z (ov_up h 25 7 x) := ov_I_up I ⟨fun q => by omega, by decide⟩ (fun e => by omega) ⟨fun e => absurd e (by decide), fun e => absurd e (by decide), fun e => absurd e (by decide), fun e => absurd e (by decide), fun e => absurd e (by decide), fun e => absurd e (by decide), fun _ => hx, fun e => absurd e (by decide), fun e => absurd e (by decide)⟩
theorem rg_25_8 {F : ov_H} {z : ov_Z} {h : ov_H} (I : ov_I F z h) : (h 25 8) = 28 := (I.1.2.1 25 8 (by decide) (by decide)).2.2.2.2.2.2.2.1 rfl
theorem up_25_8 {F : ov_H} {z : ov_Z} {h : ov_H} (I : ov_I F z h) {x : Int} (hx : x = 28) : ov_I F z (ov_up h 25 8 x) := ov_I_up I ⟨fun q => by omega, by decide⟩ (fun e => by omega) ⟨fun e => absurd e (by decide), fun e => absurd e (by decide), fun e => absurd e (by decide), fun e => absurd e (by decide), fun e => absurd e (by decide), fun e => absurd e (by decide), fun e => absurd e (by decide), fun _ => hx, fun e => absurd e (by decide)⟩
theorem rg_25_9 {F : ov_H} {z : ov_Z} {h : ov_H} (I : ov_I F z h) : (h 25 9) = 29 := (I.1.2.1 25 9 (by decide) (by decide)).2.2.2.2.2.2.2.2 rfl
theorem up_25_9 {F : ov_H} {z : ov_Z} {h : ov_H} (I : ov_I F z h) {x : Int} (hx : x = 29) : ov_I F z (ov_up h 25 9 x) := ov_I_up I ⟨fun q => by omega, by decide⟩ (fun e => by omega) ⟨fun e => absurd e (by decide), fun e => absurd e (by decide), fun e => absurd e (by decide), fun e => absurd e (by decide), fun e => absurd e (by decide), fun e => absurd e (by decide), fun e => absurd e (by decide), fun e => absurd e (by decide), fun _ => hx⟩
theorem zb_26 {F : ov_H} {z : ov_Z} {h : ov_H} (I : ov_I F z h) : 0 ≤ (26 : Int) ∧ (26 : Int) < z.1 := ⟨by decide, by have := I.1.1.1; omega⟩
theorem zs_26 {F : ov_H} {z : ov_Z} {h : ov_H} (I : ov_I F z h) : z.2.2 26 = (0, 10) := I.1.1.2 26 (by decide) (by decide)
theorem ra_26 {F : ov_H} {z : ov_Z} {h : ov_H} (I : ov_I F z h) (k : Int) : (-2147483648) ≤ (h 26 k) ∧ (h 26 k) ≤ 2147483647 := I.1.2.1 26 k (by decide) (by decide)
theorem ua_26 {F : ov_H} {z : ov_Z} {h : ov_H} (I : ov_I F z h) {k x : Int} (hx : (-2147483648) ≤ x ∧ x ≤ 2147483647) : ov_I F z (ov_up h 26 k x) := ov_I_up I ⟨fun q => by omega, by decide⟩ (fun e => by omega) hx
theorem zb_27 {F : ov_H} {z : ov_Z} {h : ov_H} (I : ov_I F z h) : 0 ≤ (27 : Int) ∧ (27 : Int) < z.1 := ⟨by decide, by have := I.1.1.1; omega⟩
theorem zs_27 {F : ov_H} {z : ov_Z} {h : ov_H} (I : ov_I F z h) : z.2.2 27 = (0, 10) := I.1.1.2 27 (by decide) (by decide)
theorem ra_27 {F : ov_H} {z : ov_Z} {h : ov_H} (I : ov_I F z h) (k : Int) : (-2147483648) ≤ (h 27 k) ∧ (h 27 k) ≤ 2147483647 := I.1.2.1 27 k (by decide) (by decide)
theorem ua_27 {F : ov_H} {z : ov_Z} {h : ov_H} (I : ov_I F z h) {k x : Int} (hx : (-2147483648) ≤ x ∧ x ≤ 2147483647) : ov_I F z (ov_up h 27 k x) := ov_I_up I ⟨fun q => by omega, by decide⟩ (fun e => by omega) hx
theorem zb_28 {F : ov_H} {z : ov_Z} {h : ov_H} (I : ov_I F z h) : 0 ≤ (28 : Int) ∧ (28 : Int) < z.1 := ⟨by decide, by have := I.1.1.1; omega⟩
theorem zs_28 {F : ov_H} {z : ov_Z} {h : ov_H} (I : ov_I F z h) : z.2.2 28 = (0, 8) := I.1.1.2 28 (by decide) (by decide)
theorem ra_28 {F : ov_H} {z : ov_Z} {h : ov_H} (I : ov_I F z h) (k : Int) : (-2147483648) ≤ (h 28 k) ∧ (h 28 k) ≤ 2147483647 := I.1.2.1 28 k (by decide) (by decide)
theorem ua_28 {F : ov_H} {z : ov_Z} {h : ov_H} (I : ov_I F z h) {k x : Int} (hx : (-2147483648) ≤ x ∧ x ≤ 2147483647) : ov_I F z (ov_up h 28 k x) := ov_I_up I ⟨fun q => by omega, by decide⟩ (fun e => by omega) hx
theorem zb_29 {F : ov_H} {z : ov_Z} {h : ov_H} (I : ov_I F z h) : 0 ≤ (29 : Int) ∧ (29 : Int) < z.1 := ⟨by decide, by have := I.1.1.1; omega⟩
theorem zs_29 {F : ov_H} {z : ov_Z} {h : ov_H} (I : ov_I F z h) : z.2.2 29 = (0, 8) := I.1.1.2 29 (by decide) (by decide)
theorem ra_29 {F : ov_H} {z : ov_Z} {h : ov_H} (I : ov_I F z h) (k : Int) : (-2147483648) ≤ (h 29 k) ∧ (h 29 k) ≤ 2147483647 := I.1.2.1 29 k (by decide) (by decide)
theorem ua_29 {F : ov_H} {z : ov_Z} {h : ov_H} (I : ov_I F z h) {k x : Int} (hx : (-2147483648) ≤ x ∧ x ≤ 2147483647) : ov_I F z (ov_up h 29 k x) := ov_I_up I ⟨fun q => by omega, by decide⟩ (fun e => by omega) hx
theorem zb_30 {F : ov_H} {z : ov_Z} {h : ov_H} (I : ov_I F z h) : 0 ≤ (30 : Int) ∧ (30 : Int) < z.1 := ⟨by decide, by have := I.1.1.1; omega⟩
theorem zs_30 {F : ov_H} {z : ov_Z} {h : ov_H} (I : ov_I F z h) : z.2.2 30 = (12, 10) := I.1.1.2 30 (by decide) (by decide)
theorem rg_30_0 {F : ov_H} {z : ov_Z} {h : ov_H} (I : ov_I F z h) : 0 ≤ (h 30 0) ∧ (h 30 0) ≤ 53 := (I.1.2.1 30 0 (by decide) (by decide)).1 rfl
theorem up_30_0 {F : ov_H} {z : ov_Z} {h : ov_H} (I : ov_I F z h) {x : Int} (hx : 0 ≤ x ∧ x ≤ 53) : ov_I F z (ov_up h 30 0 x) := ov_I_up I ⟨fun q => by omega, by decide⟩ (fun e => by omega) ⟨fun _ => hx, fun e => absurd e (by decide), fun e => absurd e (by decide), fun e => absurd e (by decide), fun e => absurd e (by decide), fun e => absurd e (by decide), fun e => absurd e (by decide), fun e => absurd e (by decide), fun e => absurd e (by decide)⟩
theorem rg_30_1 {F : ov_H} {z : ov_Z} {h : ov_H} (I : ov_I F z h) : (-2147483648) ≤ (h 30 1) ∧ (h 30 1) ≤ 2147483647 := (I.1.2.1 30 1 (by decide) (by decide)).2.1 rfl
theorem up_30_1 {F : ov_H} {z : ov_Z} {h : ov_H} (I : ov_I F z h) {x : Int} (hx : (-2147483648) ≤ x ∧ x ≤ 2147483647) : ov_I F z (ov_up h 30 1 x) := ov_I_up I ⟨fun q => by omega, by decide⟩ (fun e => by omega) ⟨fun e => absurd e (by decide), fun _ => hx, fun e => absurd e (by decide), fun e => absurd e (by decide), fun e => absurd e (by decide), fun e => absurd e (by decide), fun e => absurd e (by decide), fun e => absurd e (by decide), fun e => absurd e (by decide)⟩
theorem rg_30_2 {F : ov_H} {z : ov_Z} {h : ov_H} (I : ov_I F z h) : (-2147483648) ≤ (h 30 2) ∧ (h 30 2) ≤ 2147483647 := (I.1.2.1 30 2 (by decide) (by decide)).2.2.1 rfl
theorem up_30_2 {F : ov_H} {z : ov_Z} {h : ov_H} (I : ov_I F z h) {x : Int} (hx : (-2147483648) ≤ x ∧ x ≤ 2147483647) : ov_I F z (ov_up h 30 2 x) := ov_I_up I ⟨fun q => by omega, by decide⟩ (fun e => by omega) ⟨fun e => absurd e (by decide), fun e => absurd e (by decide), fun _ => hx, fun e => absurd e (by decide), fun e => absurd e (by decide), fun e => absurd e (by decide), fun e => absurd e (by decide), fun e => absurd e (by decide), fun e => absurd e (by decide)⟩
theorem up_30_3 {F : ov_H} {z : ov_Z} {h : ov_H} (I : ov_I F z h) {x : Int} : ov_I F z (ov_up h 30 3 x) := ov_I_up I ⟨fun q => by omega, by decide⟩ (fun e => by omega) ⟨fun e => absurd e (by decide), fun e => absurd e (by decide), fun e => absurd e (by decide), fun e => absurd e (by decide), fun e => absurd e (by decide), fun e => absurd e (by decide), fun e => absurd e (by decide), fun e => absurd e (by decide), fun e => absurd e (by decide)⟩
theorem rg_30_4 {F : ov_H} {z : ov_Z} {h : ov_H} (I : ov_I F z h) : 0 ≤ (h 30 4) ∧ (h 30 4) ≤ 10 := (I.1.2.1 30 4 (by decide) (by decide)).2.2.2.1 rfl
theorem up_30_4 {F : ov_H} {z : ov_Z} {h : ov_H} (I : ov_I F z h) {x : Int} (hx : 0 ≤ x ∧ x ≤ 10) : ov_I F z (ov_up h 30 4 x) := ov_I_up I ⟨fun q => by omega, by decide⟩ (fun e => by omega) ⟨fun e => absurd e (by decide), fun e => absurd e (by decide), fun e => absurd e (by decide), fun _ => hx, fun e => absurd e (by decide), fun e => absurd e (by decide), fun e => absurd e (by decide), fun e => absurd e (by decide), fun e => absurd e (by decide)⟩
theorem rg_30_5 {F : ov_H} {z : ov_Z} {h : ov_H} (I : ov_I F z h) : 0 ≤ (h 30 5) ∧ (h 30 5) ≤ 8 := (I.1.2.1 30 5 (by decide) (by decide)).2.2.2.2.1 rfl
theorem up_30_5 {F : ov_H} {z : ov_Z} {h : ov_H} (I : ov_I F z h) {x : Int} (hx : 0 ≤ x ∧ x ≤ 8) : ov_I F z (ov_up h 30 5 x) := ov_I_up I ⟨fun q => by omega, by decide⟩ (fun e => by omega) ⟨fun e => absurd e (by decide), fun e => absurd e (by decide), fun e => absurd e (by decide), fun e => absurd e (by decide), fun _ => hx, fun e => absurd e (by decide), fun e => absurd e (by decide), fun e => absurd e (by decide), fun e => absurd e (by decide)⟩
theorem rg_30_6 {F : ov_H} {z : ov_Z} {h : ov_H} (I : ov_I F z h) : (h 30 6) = 31 := (I.1.2.1 30 6 (by decide) (by decide)).2.2.2.2.2.1 rfl
theorem up_30_6 {F : ov_H} {z : ov_Z} {h : ov_H} (I : ov_I F z h) {x : Int} (hx : x = 31) : ov_I F z (ov_up h 30 6 x) := ov_I_up I ⟨fun q => by omega, by decide⟩ (fun e => by omega) ⟨fun e => absurd e (by decide), fun e => absurd e (by decide), fun e => absurd e (by decide), fun e => absurd e (by decide), fun e => absurd e (by decide), fun _ => hx, fun e => absurd e (by decide), fun e => absurd e (by decide), fun e => absurd e (by decide)⟩
theorem rg_30_7 {F : ov_H} {z : ov_Z} {h : ov_H} (I : ov_I F z h) : (h 30 7) = 32 := (I.1.2.1 30 7 (by decide) (by decide)).2.2.2.2.2.2.1 rfl
theorem up_30_7 {F : ov_H} {z : ov_Z} {h : ov_H} (I : ov_I F z h) {x : Int} (hx : x = 32) : ov_I F z (ov_up h 30 7 x) := ov_I_up I ⟨fun q => by omega, by decide⟩ (fun e => by omega) ⟨fun e => absurd e (by decide), fun e => absurd e (by decide), fun e => absurd e (by decide), fun e => absurd e (by decide), fun e => absurd e (by decide), fun e => absurd e (by decide), fun _ => hx, fun e => absurd e (by decide), fun e => absurd e (by decide)⟩
theorem rg_30_8 {F : ov_H} {z : ov_Z} {h : ov_H} (I : ov_I F z h) : (h 30 8) = 33 := (I.1.2.1 30 8 (by decide) (by decide)).2.2.2.2.2.2.2.1 rfl
theorem up_30_8 {F : ov_H} {z : ov_Z} {h : ov_H} (I : ov_I F z h) {x : Int} (hx : x = 33) : ov_I F z (ov_up h 30 8 x) := ov_I_up I ⟨fun q => by omega, by decide⟩ (fun e => by omega) ⟨fun e => absurd e (by decide), fun e => absurd e (by decide), fun e => absurd e (by decide), fun e => absurd e (by decide), fun e => absurd e (by decide), fun e => absurd e (by decide), fun e => absurd e (by decide), fun _ => hx, fun e => absurd e (by decide)⟩
theorem rg_30_9 {F : ov_H} {z : ov_Z} {h : ov_H} (I : ov_I F z h) : (h 30 9) = 34 := (I.1.2.1 30 9 (by decide) (by decide)).2.2.2.2.2.2.2.2 rfl
theorem up_30_9 {F : ov_H} {z : ov_Z} {h : ov_H} (I : ov_I F z h) {x : Int} (hx : x = 34) : ov_I F z (ov_up h 30 9 x) := ov_I_up I ⟨fun q => by omega, by decide⟩ (fun e => by omega) ⟨fun e => absurd e (by decide), fun e => absurd e (by decide), fun e => absurd e (by decide), fun e => absurd e (by decide), fun e => absurd e (by decide), fun e => absurd e (by decide), fun e => absurd e (by decide), fun e => absurd e (by decide), fun _ => hx⟩
theorem zb_31 {F : ov_H} {z : ov_Z} {h : ov_H} (I : ov_I F z h) : 0 ≤ (31 : Int) ∧ (31 : Int) < z.1 := ⟨by decide, by have := I.1.1.1; omega⟩
theorem zs_31 {F : ov_H} {z : ov_Z} {h : ov_H} (I : ov_I F z h) : z.2.2 31 = (0, 10) := I.1.1.2 31 (by decide) (by decide)
theorem ra_31 {F : ov_H} {z : ov_Z} {h : ov_H} (I : ov_I F z h) (k : Int) : (-2147483648) ≤ (h 31 k) ∧ (h 31 k) ≤ 2147483647 := I.1.2.1 31 k (by decide) (by decide)
theorem ua_31 {F : ov_H} {z : ov_Z} {h : ov_H} (I : ov_I F z h) {k x : Int} (hx : (-2147483648) ≤ x ∧ x ≤ 2147483647) : ov_I F z (ov_up h 31 k x) := ov_I_up I ⟨fun q => by omega, by decide⟩ (fun e => by omega) hx
theorem zb_32 {F : ov_H} {z : ov_Z} {h : ov_H} (I : ov_I F z h) : 0 ≤ (32 : Int) ∧ (32 : Int) < z.1 := ⟨by decide, by have := I.1.1.1; omega⟩
theorem zs_32 {F : ov_H} {z : ov_Z} {h : ov_H} (I : ov_I F z h) : z.2.2 32 = (0, 10) := I.1.1.2 32 (by decide) (by decide)
theorem ra_32 {F : ov_H} {z : ov_Z} {h : ov_H} (I : ov_I F z h) (k : Int) : (-2147483648) ≤ (h 32 k) ∧ (h 32 k) ≤ 2147483647 := I.1.2.1 32 k (by decide) (by decide)
theorem ua_32 {F : ov_H} {z : ov_Z} {h : ov_H} (I : ov_I F z h) {k x : Int} (hx : (-2147483648) ≤ x ∧ x ≤ 2147483647) : ov_I F z (ov_up h 32 k x) := ov_I_up I ⟨fun q => by omega, by decide⟩ (fun e => by omega) hx
theorem zb_33 {F : ov_H} {z : ov_Z} {h : ov_H} (I : ov_I F z h) : 0 ≤ (33 : Int) ∧ (33 : Int) < z.1 := ⟨by decide, by have := I.1.1.1; omega⟩
theorem zs_33 {F : ov_H} {z : ov_Z} {h : ov_H} (I : ov_I F z h) : z.2.2 33 = (0, 8) := I.1.1.2 33 (by decide) (by decide)
theorem ra_33 {F : ov_H} {z : ov_Z} {h : ov_H} (I : ov_I F z h) (k : Int) : (-2147483648) ≤ (h 33 k) ∧ (h 33 k) ≤ 2147483647 := I.1.2.1 33 k (by decide) (by decide)
theorem ua_33 {F : ov_H} {z : ov_Z} {h : ov_H} (I : ov_I F z h) {k x : Int} (hx : (-2147483648) ≤ x ∧ x ≤ 2147483647) : ov_I F z (ov_up h 33 k x) := ov_I_up I ⟨fun q => by omega, by decide⟩ (fun e => by omega) hx
theorem zb_34 {F : ov_H} {z : ov_Z} {h : ov_H} (I : ov_I F z h) : 0 ≤ (34 : Int) ∧ (34 : Int) < z.1 := ⟨by decide, by have := I.1.1.1; omega⟩
theorem zs_34 {F : ov_H} {z : ov_Z} {h : ov_H} (I : ov_I F z h) : z.2.2 34 = (0, 8) := I.1.1.2 34 (by decide) (by decide)
theorem ra_34 {F : ov_H} {z : ov_Z} {h : ov_H} (I : ov_I F z h) (k : Int) : (-2147483648) ≤ (h 34 k) ∧ (h 34 k) ≤ 2147483647 := I.1.2.1 34 k (by decide) (by decide)
theorem ua_34 {F : ov_H} {z : ov_Z} {h : ov_H} (I : ov_I F z h) {k x : Int} (hx : (-2147483648) ≤ x ∧ x ≤ 2147483647) : ov_I F z (ov_up h 34 k x) := ov_I_up I ⟨fun q => by omega, by decide⟩ (fun e => by omega) hx
theorem zb_35 {F : ov_H} {z : ov_Z} {h : ov_H} (I : ov_I F z h) : 0 ≤ (35 : Int) ∧ (35 : Int) < z.1 := ⟨by decide, by have := I.1.1.1; omega⟩
theorem zs_35 {F : ov_H} {z : ov_Z} {h : ov_H} (I : ov_I F z h) : z.2.2 35 = (3, 4) := I.1.1.2 35 (by decide) (by decide)
theorem ra_35 {F : ov_H} {z : ov_Z} {h : ov_H} (I : ov_I F z h) (k : Int) : 0 ≤ (h 35 k) ∧ (h 35 k) ≤ 1 := I.1.2.1 35 k (by decide) (by decide)
theorem ua_35 {F : ov_H} {z : ov_Z} {h : ov_H} (I : ov_I F z h) {k x : Int} (hx : 0 ≤ x ∧ x ≤ 1) : ov_I F z (ov_up h 35 k x) := ov_I_up I ⟨fun q => by omega, by decide⟩ (fun e => by omega) hx
theorem zb_36 {F : ov_H} {z : ov_Z} {h : ov_H} (I : ov_I F z h) : 0 ≤ (36 : Int) ∧ (36 : Int) < z.1 := ⟨by decide, by have := I.1.1.1; omega⟩
theorem zs_36 {F : ov_H} {z : ov_Z} {h : ov_H} (I : ov_I F z h) : z.2.2 36 = (7, 18) := I.1.1.2 36 (by decide) (by decide)
theorem rg_36_0 {F : ov_H} {z : ov_Z} {h : ov_H} (I : ov_I F z h) : (-2147483648) ≤ (h 36 0) ∧ (h 36 0) ≤ 2147483647 := (I.1.2.1 36 0 (by decide) (by decide)).1 rfl
theorem up_36_0 {F : ov_H} {z : ov_Z} {h : ov_H} (I : ov_I F z h) {x : Int} (hx : (-2147483648) ≤ x ∧ x ≤ 2147483647) : ov_I F z (ov_up h 36 0 x) := ov_I_up I ⟨fun q => by omega, by decide⟩ (fun e => by omega) ⟨fun _ => hx, fun e => absurd e (by decide), fun e => absurd e (by decide), fun e => absurd e (by decide), fun e => absurd e (by decide), fun e => absurd e (by decide), fun e => absurd e (by decide), fun e => absurd e (by decide), fun e => absurd e (by decide), fun e => absurd e (by decide), fun e => absurd e (by decide), fun e => absurd e (by decide), fun e => absurd e (by decide), fun e => absurd e (by decide), fun e => absurd e (by decide), fun e => absurd e (by decide), fun e => absurd e (by decide)⟩
theorem rg_36_1 {F : ov_H} {z : ov_Z} {h : ov_H} (I : ov_I F z h) : (-2147483648) ≤ (h 36 1) ∧ (h 36 1) ≤ 2147483647 := (I.1.2.1 36 1 (by decide) (by decide)).2.1 rfl
theorem up_36_1 {F : ov_H} {z : ov_Z} {h : ov_H} (I : ov_I F z h) {x : Int} (hx : (-2147483648) ≤ x ∧ x ≤ 2147483647) : ov_I F z (ov_up h 36 1 x) := ov_I_up I ⟨fun q => by omega, by decide⟩ (fun e => by omega) ⟨fun e => absurd e (by decide), fun _ => hx, fun e => absurd e (by decide), fun e => absurd e (by decide), fun e => absurd e (by decide), fun e => absurd e (by decide), fun e => absurd e (by decide), fun e => absurd e (by decide), fun e => absurd e (by decide), fun e => absurd e (by decide), fun e => absurd e (by decide), fun e => absurd e (by decide), fun e => absurd e (by decide), fun e => absurd e (by decide), fun e => absurd e (by decide), fun e => absurd e (by decide), fun e => absurd e (by decide)⟩
theorem rg_36_2 {F : ov_H} {z : ov_Z} {h : ov_H} (I : ov_I F z h) : (h 36 2) = 37 := (I.1.2.1 36 2 (by decide) (by decide)).2.2.1 rfl
theorem up_36_2 {F : ov_H} {z : ov_Z} {h : ov_H} (I : ov_I F z h) {x : Int} (hx : x = 37) : ov_I F z (ov_up h 36 2 x) := ov_I_up I ⟨fun q => by omega, by decide⟩ (fun e => by omega) ⟨fun e => absurd e (by decide), fun e => absurd e (by decide), fun _ => hx, fun e => absurd e (by decide), fun e => absurd e (by decide), fun e => absurd e (by decide), fun e => absurd e (by decide), fun e => absurd e (by decide), fun e => absurd e (by decide), fun e => absurd e (by decide), fun e => absurd e (by decide), fun e => absurd e (by decide), fun e => absurd e (by decide), fun e => absurd e (by decide), fun e => absurd e (by decide), fun e => absurd e (by decide), fun e => absurd e (by decide)⟩
theorem rg_36_3 {F : ov_H} {z : ov_Z} {h : ov_H} (I : ov_I F z h) : (h 36 3) = 40 := (I.1.2.1 36 3 (by decide) (by decide)).2.2.2.1 rfl
theorem up_36_3 {F : ov_H} {z : ov_Z} {h : ov_H} (I : ov_I F z h) {x : Int} (hx : x = 40) : ov_I F z (ov_up h 36 3 x) := ov_I_up I ⟨fun q => by omega, by decide⟩ (fun e => by omega) ⟨fun e => absurd e (by decide), fun e => absurd e (by decide), fun e => absurd e (by decide), fun _ => hx, fun e => absurd e (by decide), fun e => absurd e (by decide), fun e => absurd e (by decide), fun e => absurd e (by decide), fun e => absurd e (by decide), fun e => absurd e (by decide), fun e => absurd e (by decide), fun e => absurd e (by decide), fun e => absurd e (by decide), fun e => absurd e (by decide), fun e => absurd e (by decide), fun e => absurd e (by decide), fun e => absurd e (by decide)⟩
theorem rg_36_4 {F : ov_H} {z : ov_Z} {h : ov_H} (I : ov_I F z h) : (h 36 4) = 43 := (I.1.2.1 36 4 (by decide) (by decide)).2.2.2.2.1 rfl
theorem up_36_4 {F : ov_H} {z : ov_Z} {h : ov_H} (I : ov_I F z h) {x : Int} (hx : x = 43) : ov_I F z (ov_up h 36 4 x) := ov_I_up I ⟨fun q => by omega, by decide⟩ (fun e => by omega) ⟨fun e => absurd e (by decide), fun e => absurd e (by decide), fun e => absurd e (by decide), fun e => absurd e (by decide), fun _ => hx, fun e => absurd e (by decide), fun e => absurd e (by decide), fun e => absurd e (by decide), fun e => absurd e (by decide), fun e => absurd e (by decide), fun e => absurd e (by decide), fun e => absurd e (by decide), fun e => absurd e (by decide), fun e => absurd e (by decide), fun e => absurd e (by decide), fun e => absurd e (by decide), fun e => absurd e (by decide)⟩
theorem rg_36_5 {F : ov_H} {z : ov_Z} {h : ov_H} (I : ov_I F z h) : (h 36 5) = 44 := (I.1.2.1 36 5 (by decide) (by decide)).2.2.2.2.2.1 rfl
theorem up_36_5 {F : ov_H} {z : ov_Z} {h : ov_H} (I : ov_I F z h) {x : Int} (hx : x = 44) : ov_I F z (ov_up h 36 5 x) := ov_I_up I ⟨fun q => by omega, by decide⟩ (fun e => by omega) ⟨fun e => absurd e (by decide), fun e => absurd e (by decide), fun e => absurd e (by decide), fun e => absurd e (by decide), fun e => absurd e (by decide), fun _ => hx, fun e => absurd e (by decide), fun e => absurd e (by decide), fun e => absurd e (by decide), fun e => absurd e (by decide), fun e => absurd e (by decide), fun e => absurd e (by decide), fun e => absurd e (by decide), fun e => absurd e (by decide), fun e => absurd e (by decide), fun e => absurd e (by decide), fun e => absurd e (by decide)⟩
theorem rg_36_6 {F : ov_H} {z : ov_Z} {h : ov_H} (I : ov_I F z h) : (h 36 6) = 45 := (I.1.2.1 36 6 (by decide) (by decide)).2.2.2.2.2.2.1 rfl
theorem up_36_6 {F : ov_H} {z : ov_Z} {h : ov_H} (I : ov_I F z h) {x : Int} (hx : x = 45) : ov_I F z (ov_up h 36 6 x) := ov_I_up I ⟨fun q => by omega, by decide⟩ (fun e => by omega) ⟨fun e => absurd e (by decide), fun e => absurd e (by decide), fun e => absurd e (by decide), fun e => absurd e (by decide), fun e => absurd e (by decide), fun e => absurd e (by decide), fun _ => hx, fun e => absurd e (by decide), fun e => absurd e (by decide), fun e => absurd e (by decide), fun e => absurd e (by decide), fun e => absurd e (by decide), fun e => absurd e (by decide), fun e => absurd e (by decide), fun e => absurd e (by decide), fun e => absurd e (by decide), fun e => absurd e (by decide)⟩
theorem rg_36_7 {F : ov_H} {z : ov_Z} {h : ov_H} (I : ov_I F z h) : 0 ≤ (h 36 7) ∧ (h 36 7) ≤ 1 := (I.1.2.1 36 7 (by decide) (by decide)).2.2.2.2.2.2.2.1 rfl
theorem up_36_7 {F : ov_H} {z : ov_Z} {h : ov_H} (I : ov_I F z h) {x : Int} (hx : 0 ≤ x ∧ x ≤ 1) : ov_I F z (ov_up h 36 7 x) := ov_I_up I ⟨fun q => by omega, by decide⟩ (fun e => by omega) ⟨fun e => absurd e (by decide), fun e => absurd e (by decide), fun e => absurd e (by decide), fun e => absurd e (by decide), fun e => absurd e (by decide), fun e => absurd e (by decide), fun e => absurd e (by decide), fun _ => hx, fun e => absurd e (by decide), fun e => absurd e (by decide), fun e => absurd e (by decide), fun e => absurd e (by decide), fun e => absurd e (by decide), fun e => absurd e (by decide), fun e => absurd e (by decide), fun e => absurd e (by decide), fun e => absurd e (by decide)⟩
theorem rg_36_8 {F : ov_H} {z : ov_Z} {h : ov_H} (I : ov_I F z h) : (h 36 8) = (-1) ∨ (h 36 8) = 58 ∨ (h 36 8) = 70 := (I.1.2.1 36 8 (by decide) (by decide)).2.2.2.2.2.2.2.2.1 rfl
theorem up_36_8 {F : ov_H} {z : ov_Z} {h : ov_H} (I : ov_I F z h) {x : Int} (hx : x = (-1) ∨ x = 58 ∨ x = 70) : ov_I F z (ov_up h 36 8 x) := ov_I_up I ⟨fun q => by omega, by decide⟩ (fun e => by omega) ⟨fun e => absurd e (by decide), fun e => absurd e (by decide), fun e => absurd e (by decide), fun e => absurd e (by decide), fun e => absurd e (by decide), fun e => absurd e (by decide), fun e => absurd e (by decide), fun e => absurd e (by decide), fun _ => hx, fun e => absurd e (by decide), fun e => absurd e (by decide), fun e => absurd e (by decide), fun e => absurd e (by decide), fun e => absurd e (by decide), fun e => absurd e (by decide), fun e => absurd e (by decide), fun e => absurd e (by decide)⟩
theorem up_36_9 {F : ov_H} {z : ov_Z} {h : ov_H} (I : ov_I F z h) {x : Int} : ov_I F z (ov_up h 36 9 x) := ov_I_up I ⟨fun q => by omega, by decide⟩ (fun e => by omega) ⟨fun e => absurd e (by decide), fun e => absurd e (by decide), fun e => absurd e (by decide), fun e => absurd e (by decide), fun e => absurd e (by decide), fun e => absurd e (by decide), fun e => absurd e (by decide), fun e => absurd e (by decide), fun e => absurd e (by decide), fun e => absurd e (by decide), fun e => absurd e (by decide), fun e => absurd e (by decide), fun e => absurd e (by decide), fun e => absurd e (by decide), fun e => absurd e (by decide), fun e => absurd e (by decide), fun e => absurd e (by decide)⟩
theorem rg_36_10 {F : ov_H} {z : ov_Z} {h : ov_H} (I : ov_I F z h) : (-2147483648) ≤ (h 36 10) ∧ (h 36 10) ≤ 2147483647 := (I.1.2.1 36 10 (by decide) (by decide)).2.2.2.2.2.2.2.2.2.1 rfl
theorem up_36_10 {F : ov_H} {z : ov_Z} {h : ov_H} (I : ov_I F z h) {x : Int} (hx : (-2147483648) ≤ x ∧ x ≤ 2147483647) : ov_I F z (ov_up h 36 10 x) := ov_I_up I ⟨fun q => by omega, by decide⟩ (fun e => by omega) ⟨fun e => absurd e (by decide), fun e => absurd e (by decide), fun e => absurd e (by decide), fun e => absurd e (by decide), fun e => absurd e (by decide), fun e => absurd e (by decide), fun e => absurd e (by decide), fun e => absurd e (by decide), fun e => absurd e (by decide), fun _ => hx, fun e => absurd e (by decide), fun e => absurd e (by decide), fun e => absurd e (by decide), fun e => absurd e (by decide), fun e => absurd e (by decide), fun e => absurd e (by decide), fun e => absurd e (by decide)⟩
theorem rg_36_11 {F : ov_H} {z : ov_Z} {h : ov_H} (I : ov_I F z h) : 0 ≤ (h 36 11) ∧ (h 36 11) ≤ 1 := (I.1.2.1 36 11 (by decide) (by decide)).2.2.2.2.2.2.2.2.2.2.1 rfl
theorem up_36_11 {F : ov_H} {z : ov_Z} {h : ov_H} (I : ov_I F z h) {x : Int} (hx : 0 ≤ x ∧ x ≤ 1) : ov_I F z (ov_up h 36 11 x) := ov_I_up I ⟨fun q => by omega, by decide⟩ (fun e => by omega) ⟨fun e => absurd e (by decide), fun e => absurd e (by decide), fun e => absurd e (by decide), fun e => absurd e (by decide), fun e => absurd e (by decide), fun e => absurd e (by decide), fun e => absurd e (by decide), fun e => absurd e (by decide), fun e => absurd e (by decide), fun e => absurd e (by decide), fun _ => hx, fun e => absurd e (by decide), fun e => absurd e (by decide), fun e => absurd e (by decide), fun e => absurd e (by decide), fun e => absurd e (by decide), fun e => absurd e (by decide)⟩
theorem rg_36_12 {F : ov_H} {z : ov_Z} {h : ov_H} (I : ov_I F z h) : (-2147483648) ≤ (h 36 12) ∧ (h 36 12) ≤ 2147483647 := (I.1.2.1 36 12 (by decide) (by decide)).2.2.2.2.2.2.2.2.2.2.2.1 rfl
theorem up_36_12 {F : ov_H} {z : ov_Z} {h : ov_H} (I : ov_I F z h) {x : Int} (hx : (-2147483648) ≤ x ∧ x ≤ 2147483647) : ov_I F z (ov_up h 36 12 x) := ov_I_up I ⟨fun q => by omega, by decide⟩ (fun e => by omega) ⟨fun e => absurd e (by decide), fun e => absurd e (by decide), fun e => absurd e (by decide), fun e => absurd e (by decide), fun e => absurd e (by decide), fun e => absurd e (by decide), fun e => absurd e (by decide), fun e => absurd e (by decide), fun e => absurd e (by decide), fun e => absurd e (by decide), fun e => absurd e (by decide), fun _ => hx, fun e => absurd e (by decide), fun e => absurd e (by decide), fun e => absurd e (by decide), fun e => absurd e (by decide), fun e => absurd e (by decide)⟩
theorem rg_36_13 {F : ov_H} {z : ov_Z} {h : ov_H} (I : ov_I F z h) : 0 ≤ (h 36 13) ∧ (h 36 13) ≤ 53 := (I.1.2.1 36 13 (by decide) (by decide)).2.2.2.2.2.2.2.2.2.2.2.2.1 rfl
theorem up_36_13 {F : ov_H} {z : ov_Z} {h : ov_H} (I : ov_I F z h) {x : Int} (hx : 0 ≤ x ∧ x ≤ 53) : ov_I F z (ov_up h 36 13 x) := ov_I_up I ⟨fun q => by omega, by decide⟩ (fun e => by omega) ⟨fun e => absurd e (by decide), fun e => absurd e (by decide), fun e => absurd e (by decide), fun e => absurd e (by decide), fun e => absurd e (by decide), fun e => absurd e (by decide), fun e => absurd e (by decide), fun e => absurd e (by decide), fun e => absurd e (by decide), fun e => absurd e (by decide), fun e => absurd e (by decide), fun e => absurd e (by decide), fun _ => hx, fun e => absurd e (by decide), fun e => absurd e (by decide), fun e => absurd e (by decide), fun e => absurd e (by decide)⟩
theorem rg_36_14 {F : ov_H} {z : ov_Z} {h : ov_H} (I : ov_I F z h) : (-2147483648) ≤ (h 36 14) ∧ (h 36 14) ≤ 2147483647 := (I.1.2.1 36 14 (by decide) (by decide)).2.2.2.2.2.2.2.2.2.2.2.2.2.1 rfl
theorem up_36_14 {F : ov_H} {z : ov_Z} {h : ov_H} (I : ov_I F z h) {x : Int} (hx : (-2147483648) ≤ x ∧ x ≤ 2147483647) : ov_I F z (ov_up h 36 14 x) := ov_I_up I ⟨fun q => by omega, by decide⟩ (fun e => by omega) ⟨fun e => absurd e (by decide), fun e => absurd e (by decide), fun e => absurd e (by decide), fun e => absurd e (by decide), fun e => absurd e (by decide), fun e => absurd e (by decide), fun e => absurd e (by decide), fun e => absurd e (by decide), fun e => absurd e (by decide), fun e => absurd e (by decide), fun e => absurd e (by decide), fun e => absurd e (by decide), fun e => absurd e (by decide), fun _ => hx, fun e => absurd e (by decide), fun e => absurd e (by decide), fun e => absurd e (by decide)⟩
theorem rg_36_15 {F : ov_H} {z : ov_Z} {h : ov_H} (I : ov_I F z h) : (-2147483648) ≤ (h 36 15) ∧ (h 36 15) ≤ 2147483647 := (I.1.2.1 36 15 (by decide) (by decide)).2.2.2.2.2.2.2.2.2.2.2.2.2.2.1 rfl
theorem up_36_15 {F : ov_H} {z : ov_Z} {h : ov_H} (I : ov_I F z h) {x : Int} (hx : (-2147483648) ≤ x ∧ x ≤ 2147483647) : ov_I F z (ov_up h 36 15 x) := ov_I_up I ⟨fun q => by omega, by decide⟩ (fun e => by omega) ⟨fun e => absurd e (by decide), fun e => absurd e (by decide), fun e => absurd e (by decide), fun e => absurd e (by decide), fun e => absurd e (by decide), fun e => absurd e (by decide), fun e => absurd e (by decide), fun e => absurd e (by decide), fun e => absurd e (by decide), fun e => absurd e (by decide), fun e => absurd e (by decide), fun e => absurd e (by decide), fun e => absurd e (by decide), fun e => absurd e (by decide), fun _ => hx, fun e => absurd e (by decide), fun e => absurd e (by decide)⟩
theorem rg_36_16 {F : ov_H} {z : ov_Z} {h : ov_H} (I : ov_I F z h) : (-2147483648) ≤ (h 36 16) ∧ (h 36 16) ≤ 2147483647 := (I.1.2.1 36 16 (by decide) (by decide)).2.2.2.2.2.2.2.2.2.2.2.2.2.2.2.1 rfl
theorem up_36_16 {F : ov_H} {z : ov_Z} {h : ov_H} (I : ov_I F z h) {x : Int} (hx : (-2147483648) ≤ x ∧ x ≤ 2147483647) : ov_I F z (ov_up h 36 16 x) := ov_I_up I ⟨fun q => by omega, by decide⟩ (fun e => by omega) ⟨fun e => absurd e (by decide), fun e => absurd e (by decide), fun e => absurd e (by decide), fun e => absurd e (by decide), fun e => absurd e (by decide), fun e => absurd e (by decide), fun e => absurd e (by decide), fun e => absurd e (by decide), fun e => absurd e (by decide), fun e => absurd e (by decide), fun e => absurd e (by decide), fun e => absurd e (by decide), fun e => absurd e (by decide), fun e => absurd e (by decide), fun e => absurd e (by decide), fun _ => hx, fun e => absurd e (by decide)⟩
theorem rg_36_17 {F : ov_H} {z : ov_Z} {h : ov_H} (I : ov_I F z h) : (-2147483648) ≤ (h 36 17) ∧ (h 36 17) ≤ 2147483647 := (I.1.2.1 36 17 (by decide) (by decide)).2.2.2.2.2.2.2.2.2.2.2.2.2.2.2.2 rfl
theorem up_36_17 {F : ov_H} {z : ov_Z} {h : ov_H} (I : ov_I F z h) {x : Int} (hx : (-2147483648) ≤ x ∧ x ≤ 2147483647) : ov_I F z (ov_up h 36 17 x) := ov_I_up I ⟨fun q => by omega, by decide⟩ (fun e => by omega) ⟨fun e => absurd e (by decide), fun e => absurd e (by decide), fun e => absurd e (by decide), fun e => absurd e (by decide), fun e => absurd e (by decide), fun e => absurd e (by decide), fun e => absurd e (by decide), fun e => absurd e (by decide), fun e => absurd e (by decide), fun e => absurd e (by decide), fun e => absurd e (by decide), fun e => absurd e (by decide), fun e => absurd e (by decide), fun e => absurd e (by decide), fun e => absurd e (by decide), fun e => absurd e (by decide), fun _ => hx⟩
theorem zb_37 {F : ov_H} {z : ov_Z} {h : ov_H} (I : ov_I F z h) : 0 ≤ (37 : Int) ∧ (37 : Int) < z.1 := ⟨by decide, by have := I.1.1.1; omega⟩
theorem zs_37 {F : ov_H} {z : ov_Z} {h : ov_H} (I : ov_I F z h) : z.2.2 37 = (9, 3) := I.1.1.2 37 (by decide) (by decide)
theorem rg_37_1 {F : ov_H} {z : ov_Z} {h : ov_H} (I : ov_I F z h) : (h 37 1) = 39 := (I.1.2.1 37 1 (by decide) (by decide)).1 rfl
theorem up_37_1 {F : ov_H} {z : ov_Z} {h : ov_H} (I : ov_I F z h) {x : Int} (hx : x = 39) : ov_I F z (ov_up h 37 1 x) := ov_I_up I ⟨fun q => by omega, by decide⟩ (fun e => by omega) ⟨fun _ => hx, fun e => absurd e (by decide)⟩
theorem rg_37_2 {F : ov_H} {z : ov_Z} {h : ov_H} (I : ov_I F z h) : (-2147483648) ≤ (h 37 2) ∧ (h 37 2) ≤ 2147483647 := (I.1.2.1 37 2 (by decide) (by decide)).2 rfl
theorem up_37_2 {F : ov_H} {z : ov_Z} {h : ov_H} (I : ov_I F z h) {x : Int} (hx : (-2147483648) ≤ x ∧ x ≤ 2147483647) : ov_I F z (ov_up h 37 2 x) := ov_I_up I ⟨fun q => by omega, by decide⟩ (fun e => by omega) ⟨fun e => absurd e (by decide), fun _ => hx⟩
theorem zb_38 {F : ov_H} {z : ov_Z} {h : ov_H} (I : ov_I F z h) : 0 ≤ (38 : Int) ∧ (38 : Int) < z.1 := ⟨by decide, by have := I.1.1.1; omega⟩
theorem zs_38 {F : ov_H} {z : ov_Z} {h : ov_H} (I : ov_I F z h) : z.2.2 38 = (1, 0) := I.1.1.2 38 (by decide) (by decide)
theorem ua_38 {F : ov_H} {z : ov_Z} {h : ov_H} (I : ov_I F z h) {k x : Int} : ov_I F z (ov_up h 38 k x) := ov_I_up I ⟨fun q => by omega, by decide⟩ (fun e => by omega) trivial
theorem zb_39 {F : ov_H} {z : ov_Z} {h : ov_H} (I : ov_I F z h) : 0 ≤ (39 : Int) ∧ (39 : Int) < z.1 := ⟨by decide, by have := I.1.1.1; omega⟩
theorem zs_39 {F : ov_H} {z : ov_Z} {h : ov_H} (I : ov_I F z h) : z.2.2 39 = (0, 54) := I.1.1.2 39 (by decide) (by decide)
theorem ra_39 {F : ov_H} {z : ov_Z} {h : ov_H} (I : ov_I F z h) (k : Int) : (-2147483648) ≤ (h 39 k) ∧ (h 39 k) ≤ 2147483647 := I.1.2.1 39 k (by decide) (by decide)
theorem ua_39 {F : ov_H} {z : ov_Z} {h : ov_H} (I : ov_I F z h) {k x : Int} (hx : (-2147483648) ≤ x ∧ x ≤ 2147483647) : ov_I F z (ov_up h 39 k x) := ov_I_up I ⟨fun q => by omega, by decide⟩ (fun e => by omega) hx
theorem zb_40 {F : ov_H} {z : ov_Z} {h : ov_H} (I : ov_I F z h) : 0 ≤ (40 : Int) ∧ (40 : Int) < z.1 := ⟨by decide, by have := I.1.1.1; omega⟩
theorem zs_40 {F : ov_H} {z : ov_Z} {h : ov_H} (I : ov_I F z h) : z.2.2 40 = (9, 3) := I.1.1.2 40 (by decide) (by decide)
theorem rg_40_1 {F : ov_H} {z : ov_Z} {h : ov_H} (I : ov_I F z h) : (h 40 1) = 42 := (I.1.2.1 40 1 (by decide) (by decide)).1 rfl
theorem up_40_1 {F : ov_H} {z : ov_Z} {h : ov_H} (I : ov_I F z h) {x : Int} (hx : x = 42) : ov_I F z (ov_up h 40 1 x) := ov_I_up I ⟨fun q => by omega, by decide⟩ (fun e => by omega) ⟨fun _ => hx, fun e => absurd e (by decide)⟩
theorem rg_40_2 {F : ov_H} {z : ov_Z} {h : ov_H} (I : ov_I F z h) : (-2147483648) ≤ (h 40 2) ∧ (h 40 2) ≤ 2147483647 := (I.1.2.1 40 2 (by decide) (by decide)).2 rfl
theorem up_40_2 {F : ov_H} {z : ov_Z} {h : ov_H} (I : ov_I F z h) {x : Int} (hx : (-2147483648) ≤ x ∧ x ≤ 2147483647) : ov_I F z (ov_up h 40 2 x) := ov_I_up I ⟨fun q => by omega, by decide⟩ (fun e => by omega) ⟨fun e => absurd e (by decide), fun _ => hx⟩
theorem zb_41 {F : ov_H} {z : ov_Z} {h : ov_H} (I : ov_I F z h) : 0 ≤ (41 : Int) ∧ (41 : Int) < z.1 := ⟨by decide, by have := I.1.1.1; omega⟩
theorem zs_41 {F : ov_H} {z : ov_Z} {h : ov_H} (I : ov_I F z h) : z.2.2 41 = (1, 0) := I.1.1.2 41 (by decide) (by decide)
theorem ua_41 {F : ov_H} {z : ov_Z} {h : ov_H} (I : ov_I F z h) {k x : Int} : ov_I F z (ov_up h 41 k x) := ov_I_up I ⟨fun q => by omega, by decide⟩ (fun e => by omega) trivial
theorem zb_42 {F : ov_H} {z : ov_Z} {h : ov_H} (I : ov_I F z h) : 0 ≤ (42 : Int) ∧ (42 : Int) < z.1 := ⟨by decide, by have := I.1.1.1; omega⟩
theorem zs_42 {F : ov_H} {z : ov_Z} {h : ov_H} (I : ov_I F z h) : z.2.2 42 = (0, 54) := I.1.1.2 42 (by decide) (by decide)
theorem ra_42 {F : ov_H} {z : ov_Z} {h : ov_H} (I : ov_I F z h) (k : Int) : (-2147483648) ≤ (h 42 k) ∧ (h 42 k) ≤ 2147483647 := I.1.2.1 42 k (by decide) (by decide)
theorem ua_42 {F : ov_H} {z : ov_Z} {h : ov_H} (I : ov_I F z h) {k x : Int} (hx : (-2147483648) ≤ x ∧ x ≤ 2147483647) : ov_I F z (ov_up h 42 k x) := ov_I_up I ⟨fun q => by omega, by decide⟩ (fun e => by omega) hx
theorem zb_43 {F : ov_H} {z : ov_Z} {h : ov_H} (I : ov_I F z h) : 0 ≤ (43 : Int) ∧ (43 : Int) < z.1 := ⟨by decide, by have := I.1.1.1; omega⟩
theorem zs_43 {F : ov_H} {z : ov_Z} {h : ov_H} (I : ov_I F z h) : z.2.2 43 = (0, 54) := I.1.1.2 43 (by decide) (by decide)
theorem ra_43 {F : ov_H} {z : ov_Z} {h : ov_H} (I : ov_I F z h) (k : Int) : (-2147483648) ≤ (h 43 k) ∧ (h 43 k) ≤ 2147483647 := I.1.2.1 43 k (by decide) (by decide)
theorem ua_43 {F : ov_H} {z : ov_Z} {h : ov_H} (I : ov_I F z h) {k x : Int} (hx : (-2147483648) ≤ x ∧ x ≤ 2147483647) : ov_I F z (ov_up h 43 k x) := ov_I_up I ⟨fun q => by omega, by decide⟩ (fun e => by omega) hx
theorem zb_44 {F : ov_H} {z : ov_Z} {h : ov_H} (I : ov_I F z h) : 0 ≤ (44 : Int) ∧ (44 : Int) < z.1 := ⟨by decide, by have := I.1.1.1; omega⟩
theorem zs_44 {F : ov_H} {z : ov_Z} {h : ov_H} (I : ov_I F z h) : z.2.2 44 = (0, 54) := I.1.1.2 44 (by decide) (by decide)
theorem ra_44 {F : ov_H} {z : ov_Z} {h : ov_H} (I : ov_I F z h) (k : Int) : (-2147483648) ≤ (h 44 k) ∧ (h 44 k) ≤ 2147483647 := I.1.2.1 44 k (by decide) (by decide)
theorem ua_44 {F : ov_H} {z : ov_Z} {h : ov_H} (I : ov_I F z h) {k x : Int} (hx : (-2147483648) ≤ x ∧ x ≤ 2147483647) : ov_I F z (ov_up h 44 k x) := ov_I_up I ⟨fun q => by omega, by decide⟩ (fun e => by omega) hx
theorem zb_45 {F : ov_H} {z : ov_Z} {h : ov_H} (I : ov_I F z h) : 0 ≤ (45 : Int) ∧ (45 : Int) < z.1 := ⟨by decide, by have := I.1.1.1; omega⟩
theorem zs_45 {F : ov_H} {z : ov_Z} {h : ov_H} (I : ov_I F z h) : z.2.2 45 = (0, 54) := I.1.1.2 45 (by decide) (by decide)
theorem ra_45 {F : ov_H} {z : ov_Z} {h : ov_H} (I : ov_I F z h) (k : Int) : (-2147483648) ≤ (h 45 k) ∧ (h 45 k) ≤ 2147483647 := I.1.2.1 45 k (by decide) (by decide)
theorem ua_45 {F : ov_H} {z : ov_Z} {h : ov_H} (I : ov_I F z h) {k x : Int} (hx : (-2147483648) ≤ x ∧ x ≤ 2147483647) : ov_I F z (ov_up h 45 k x) := ov_I_up I ⟨fun q => by omega, by decide⟩ (fun e => by omega) hx
theorem zb_46 {F : ov_H} {z : ov_Z} {h : ov_H} (I : ov_I F z h) : 0 ≤ (46 : Int) ∧ (46 : Int) < z.1 := ⟨by decide, by have := I.1.1.1; omega⟩
theorem zs_46 {F : ov_H} {z : ov_Z} {h : ov_H} (I : ov_I F z h) : z.2.2 46 = (17, 7) := I.1.1.2 46 (by decide) (by decide)
theorem rg_46_0 {F : ov_H} {z : ov_Z} {h : ov_H} (I : ov_I F z h) : (-2147483648) ≤ (h 46 0) ∧ (h 46 0) ≤ 2147483647 := (I.1.2.1 46 0 (by decide) (by decide)).1 rfl
theorem up_46_0 {F : ov_H} {z : ov_Z} {h : ov_H} (I : ov_I F z h) {x : Int} (hx : (-2147483648) ≤ x ∧ x ≤ 2147483647) : ov_I F z (ov_up h 46 0 x) := ov_I_up I ⟨fun q => by omega, by decide⟩ (fun e => by omega) ⟨fun _ => hx, fun e => absurd e (by decide), fun e => absurd e (by decide), fun e => absurd e (by decide), fun e => absurd e (by decide)⟩
theorem up_46_1 {F : ov_H} {z : ov_Z} {h : ov_H} (I : ov_I F z h) {x : Int} : ov_I F z (ov_up h 46 1 x) := ov_I_up I ⟨fun q => by omega, by decide⟩ (fun e => by omega) ⟨fun e => absurd e (by decide), fun e => absurd e (by decide), fun e => absurd e (by decide), fun e => absurd e (by decide), fun e => absurd e (by decide)⟩
theorem up_46_2 {F : ov_H} {z : ov_Z} {h : ov_H} (I : ov_I F z h) {x : Int} : ov_I F z (ov_up h 46 2 x) := ov_I_up I ⟨fun q => by omega, by decide⟩ (fun e => by omega) ⟨fun e => absurd e (by decide), fun e => absurd e (by decide), fun e => absurd e (by decide), fun e => absurd e (by decide), fun e => absurd e (by decide)⟩
theorem rg_46_3 {F : ov_H} {z : ov_Z} {h : ov_H} (I : ov_I F z h) : (h 46 3) = (-1) ∨ (h 46 3) = 58 ∨ (h 46 3) = 70 := (I.1.2.1 46 3 (by decide) (by decide)).2.1 rfl
theorem up_46_3 {F : ov_H} {z : ov_Z} {h : ov_H} (I : ov_I F z h) {x : Int} (hx : x = (-1) ∨ x = 58 ∨ x = 70) : ov_I F z (ov_up h 46 3 x) := ov_I_up I ⟨fun q => by omega, by decide⟩ (fun e => by omega) ⟨fun e => absurd e (by decide), fun _ => hx, fun e => absurd e (by decide), fun e => absurd e (by decide), fun e => absurd e (by decide)⟩
theorem rg_46_4 {F : ov_H} {z : ov_Z} {h : ov_H} (I : ov_I F z h) : (h 46 4) = (-1) ∨ (h 46 4) = 4 := (I.1.2.1 46 4 (by decide) (by decide)).2.2.1 rfl
theorem up_46_4 {F : ov_H} {z : ov_Z} {h : ov_H} (I : ov_I F z h) {x : Int} (hx : x = (-1) ∨ x = 4) : ov_I F z (ov_up h 46 4 x) := ov_I_up I ⟨fun q => by omega, by decide⟩ (fun e => by omega) ⟨fun e => absurd e (by decide), fun e => absurd e (by decide), fun _ => hx, fun e => absurd e (by decide), fun e => absurd e (by decide)⟩
theorem rg_46_5 {F : ov_H} {z : ov_Z} {h : ov_H} (I : ov_I F z h) : (h 46 5) = 47 := (I.1.2.1 46 5 (by decide) (by decide)).2.2.2.1 rfl
theorem up_46_5 {F : ov_H} {z : ov_Z} {h : ov_H} (I : ov_I F z h) {x : Int} (hx : x = 47) : ov_I F z (ov_up h 46 5 x) := ov_I_up I ⟨fun q => by omega, by decide⟩ (fun e => by omega) ⟨fun e => absurd e (by decide), fun e => absurd e (by decide), fun e => absurd e (by decide), fun _ => hx, fun e => absurd e (by decide)⟩
theorem rg_46_6 {F : ov_H} {z : ov_Z} {h : ov_H} (I : ov_I F z h) : (h 46 6) = 48 := (I.1.2.1 46 6 (by decide) (by decide)).2.2.2.2 rfl
theorem up_46_6 {F : ov_H} {z : ov_Z} {h : ov_H} (I : ov_I F z h) {x : Int} (hx : x = 48) : ov_I F z (ov_up h 46 6 x) := ov_I_up I ⟨fun q => by omega, by decide⟩ (fun e => by omega) ⟨fun e => absurd e (by decide), fun e => absurd e (by decide), fun e => absurd e (by decide), fun e => absurd e (by decide), fun _ => hx⟩
theorem zb_47 {F : ov_H} {z : ov_Z} {h : ov_H} (I : ov_I F z h) : 0 ≤ (47 : Int) ∧ (47 : Int) < z.1 := ⟨by decide, by have := I.1.1.1; omega⟩
theorem zs_47 {F : ov_H} {z : ov_Z} {h : ov_H} (I : ov_I F z h) : z.2.2 47 = (0, 54) := I.1.1.2 47 (by decide) (by decide)
theorem ra_47 {F : ov_H} {z : ov_Z} {h : ov_H} (I : ov_I F z h) (k : Int) : (-2147483648) ≤ (h 47 k) ∧ (h 47 k) ≤ 2147483647 := I.1.2.1 47 k (by decide) (by decide)
theorem ua_47 {F : ov_H} {z : ov_Z} {h : ov_H} (I : ov_I F z h) {k x : Int} (hx : (-2147483648) ≤ x ∧ x ≤ 2147483647) : ov_I F z (ov_up h 47 k x) := ov_I_up I ⟨fun q => by omega, by decide⟩ (fun e => by omega) hx
theorem zb_48 {F : ov_H} {z : ov_Z} {h : ov_H} (I : ov_I F z h) : 0 ≤ (48 : Int) ∧ (48 : Int) < z.1 := ⟨by decide, by have := I.1.1.1; omega⟩
theorem zs_48 {F : ov_H} {z : ov_Z} {h : ov_H} (I : ov_I F z h) : z.2.2 48 = (0, 1404) := I.1.1.2 48 (by decide) (by decide)
theorem ra_48 {F : ov_H} {z : ov_Z} {h : ov_H} (I : ov_I F z h) (k : Int) : (-2147483648) ≤ (h 48 k) ∧ (h 48 k) ≤ 2147483647 := I.1.2.1 48 k (by decide) (by decide)
theorem ua_48 {F : ov_H} {z : ov_Z} {h : ov_H} (I : ov_I F z h) {k x : Int} (hx : (-2147483648) ≤ x ∧ x ≤ 2147483647) : ov_I F z (ov_up h 48 k x) := ov_I_up I ⟨fun q => by omega, by decide⟩ (fun e => by omega) hx
theorem zb_49 {F : ov_H} {z : ov_Z} {h : ov_H} (I : ov_I F z h) : 0 ≤ (49 : Int) ∧ (49 : Int) < z.1 := ⟨by decide, by have := I.1.1.1; omega⟩
theorem zs_49 {F : ov_H} {z : ov_Z} {h : ov_H} (I : ov_I F z h) : z.2.2 49 = (10, 9) := I.1.1.2 49 (by decide) (by decide)
theorem rg_49_0 {F : ov_H} {z : ov_Z} {h : ov_H} (I : ov_I F z h) : (-2147483648) ≤ (h 49 0) ∧ (h 49 0) ≤ 2147483647 := (I.1.2.1 49 0 (by decide) (by decide)).1 rfl
theorem up_49_0 {F : ov_H} {z : ov_Z} {h : ov_H} (I : ov_I F z h) {x : Int} (hx : (-2147483648) ≤ x ∧ x ≤ 2147483647) : ov_I F z (ov_up h 49 0 x) := ov_I_up I ⟨fun q => by omega, by decide⟩ (fun e => by omega) ⟨fun _ => hx, fun e => absurd e (by decide), fun e => absurd e (by decide), fun e => absurd e (by decide), fun e => absurd e (by decide), fun e => absurd e (by decide), fun e => absurd e (by decide), fun e => absurd e (by decide), fun e => absurd e (by decide)⟩
theorem rg_49_1 {F : ov_H} {z : ov_Z} {h : ov_H} (I : ov_I F z h) : (-2147483648) ≤ (h 49 1) ∧ (h 49 1) ≤ 2147483647 := (I.1.2.1 49 1 (by decide) (by decide)).2.1 rfl
theorem up_49_1 {F : ov_H} {z : ov_Z} {h : ov_H} (I : ov_I F z h) {x : Int} (hx : (-2147483648) ≤ x ∧ x ≤ 2147483647) : ov_I F z (ov_up h 49 1 x) := ov_I_up I ⟨fun q => by omega, by decide⟩ (fun e => by omega) ⟨fun e => absurd e (by decide), fun _ => hx, fun e => absurd e (by decide), fun e => absurd e (by decide), fun e => absurd e (by decide), fun e => absurd e (by decide), fun e => absurd e (by decide), fun e => absurd e (by decide), fun e => absurd e (by decide)⟩
theorem rg_49_2 {F : ov_H} {z : ov_Z} {h : ov_H} (I : ov_I F z h) : (h 49 2) = 50 := (I.1.2.1 49 2 (by decide) (by decide)).2.2.1 rfl
theorem up_49_2 {F : ov_H} {z : ov_Z} {h : ov_H} (I : ov_I F z h) {x : Int} (hx : x = 50) : ov_I F z (ov_up h 49 2 x) := ov_I_up I ⟨fun q => by omega, by decide⟩ (fun e => by omega) ⟨fun e => absurd e (by decide), fun e => absurd e (by decide), fun _ => hx, fun e => absurd e (by decide), fun e => absurd e (by decide), fun e => absurd e (by decide), fun e => absurd e (by decide), fun e => absurd e (by decide), fun e => absurd e (by decide)⟩
theorem rg_49_3 {F : ov_H} {z : ov_Z} {h : ov_H} (I : ov_I F z h) : (h 49 3) = 51 := (I.1.2.1 49 3 (by decide) (by decide)).2.2.2.1 rfl
theorem up_49_3 {F : ov_H} {z : ov_Z} {h : ov_H} (I : ov_I F z h) {x : Int} (hx : x = 51) : ov_I F z (ov_up h 49 3 x) := ov_I_up I ⟨fun q => by omega, by decide⟩ (fun e => by omega) ⟨fun e => absurd e (by decide), fun e => absurd e (by decide), fun e => absurd e (by decide), fun _ => hx, fun e => absurd e (by decide), fun e => absurd e (by decide), fun e => absurd e (by decide), fun e => absurd e (by decide), fun e => absurd e (by decide)⟩
theorem rg_49_4 {F : ov_H} {z : ov_Z} {h : ov_H} (I : ov_I F z h) : (h 49 4) = (-1) ∨ (h 49 4) = 58 ∨ (h 49 4) = 70 := (I.1.2.1 49 4 (by decide) (by decide)).2.2.2.2.1 rfl
theorem up_49_4 {F : ov_H} {z : ov_Z} {h : ov_H} (I : ov_I F z h) {x : Int} (hx : x = (-1) ∨ x = 58 ∨ x = 70) : ov_I F z (ov_up h 49 4 x) := ov_I_up I ⟨fun q => by omega, by decide⟩ (fun e => by omega) ⟨fun e => absurd e (by decide), fun e => absurd e (by decide), fun e => absurd e (by decide), fun e => absurd e (by decide), fun _ => hx, fun e => absurd e (by decide), fun e => absurd e (by decide), fun e => absurd e (by decide), fun e => absurd e (by decide)⟩
theorem rg_49_5 {F : ov_H} {z : ov_Z} {h : ov_H} (I : ov_I F z h) : (h 49 5) = (-1) ∨ (h 49 5) = 82 ∨ (h 49 5) = 86 := (I.1.2.1 49 5 (by decide) (by decide)).2.2.2.2.2.1 rfl
theorem up_49_5 {F : ov_H} {z : ov_Z} {h : ov_H} (I : ov_I F z h) {x : Int} (hx : x = (-1) ∨ x = 82 ∨ x = 86) : ov_I F z (ov_up h 49 5 x) := ov_I_up I ⟨fun q => by omega, by decide⟩ (fun e => by omega) ⟨fun e => absurd e (by decide), fun e => absurd e (by decide), fun e => absurd e (by decide), fun e => absurd e (by decide), fun e => absurd e (by decide), fun _ => hx, fun e => absurd e (by decide), fun e => absurd e (by decide), fun e => absurd e (by decide)⟩
theorem rg_49_6 {F : ov_H} {z : ov_Z} {h : ov_H} (I : ov_I F z h) : (-1) ≤ (h 49 6) ∧ (h 49 6) ≤ 9 := (I.1.2.1 49 6 (by decide) (by decide)).2.2.2.2.2.2.1 rfl
theorem up_49_6 {F : ov_H} {z : ov_Z} {h : ov_H} (I : ov_I F z h) {x : Int} (hx : (-1) ≤ x ∧ x ≤ 9) : ov_I F z (ov_up h 49 6 x) := ov_I_up I ⟨fun q => by omega, by decide⟩ (fun e => by omega) ⟨fun e => absurd e (by decide), fun e => absurd e (by decide), fun e => absurd e (by decide), fun e => absurd e (by decide), fun e => absurd e (by decide), fun e => absurd e (by decide), fun _ => hx, fun e => absurd e (by decide), fun e => absurd e (by decide)⟩
theorem rg_49_7 {F : ov_H} {z : ov_Z} {h : ov_H} (I : ov_I F z h) : (-2147483648) ≤ (h 49 7) ∧ (h 49 7) ≤ 2147483647 := (I.1.2.1 49 7 (by decide) (by decide)).2.2.2.2.2.2.2.1 rfl
theorem up_49_7 {F : ov_H} {z : ov_Z} {h : ov_H} (I : ov_I F z h) {x : Int} (hx : (-2147483648) ≤ x ∧ x ≤ 2147483647) : ov_I F z (ov_up h 49 7 x) := ov_I_up I ⟨fun q => by omega, by decide⟩ (fun e => by omega) ⟨fun e => absurd e (by decide), fun e => absurd e (by decide), fun e => absurd e (by decide), fun e => absurd e (by decide), fun e => absurd e (by decide), fun e => absurd e (by decide), fun e => absurd e (by decide), fun _ => hx, fun e => absurd e (by decide)⟩
theorem rg_49_8 {F : ov_H} {z : ov_Z} {h : ov_H} (I : ov_I F z h) : 0 ≤ (h 49 8) ∧ (h 49 8) ≤ 1 := (I.1.2.1 49 8 (by decide) (by decide)).2.2.2.2.2.2.2.2 rfl
theorem up_49_8 {F : ov_H} {z : ov_Z} {h : ov_H} (I : ov_I F z h) {x : Int} (hx : 0 ≤ x ∧ x ≤ 1) : ov_I F z (ov_up h 49 8 x) := ov_I_up I ⟨fun q => by omega, by decide⟩ (fun e => by omega) ⟨fun e => absurd e (by decide), fun e => absurd e (by decide), fun e => absurd e (by decide), fun e => absurd e (by decide), fun e => absurd e (by decide), fun e => absurd e (by decide), fun e => absurd e (by decide), fun e => absurd e (by decide), fun _ => hx⟩
theorem zb_50 {F : ov_H} {z : ov_Z} {h : ov_H} (I : ov_I F z h) : 0 ≤ (50 : Int) ∧ (50 : Int) < z.1 := ⟨by decide, by have := I.1.1.1; omega⟩
theorem zs_50 {F : ov_H} {z : ov_Z} {h : ov_H} (I : ov_I F z h) : z.2.2 50 = (0, 13) := I.1.1.2 50 (by decide) (by decide)
theorem ra_50 {F : ov_H} {z : ov_Z} {h : ov_H} (I : ov_I F z h) (k : Int) : (-2147483648) ≤ (h 50 k) ∧ (h 50 k) ≤ 2147483647 := I.1.2.1 50 k (by decide) (by decide)
theorem ua_50 {F : ov_H} {z : ov_Z} {h : ov_H} (I : ov_I F z h) {k x : Int} (hx : (-2147483648) ≤ x ∧ x ≤ 2147483647) : ov_I F z (ov_up h 50 k x) := ov_I_up I ⟨fun q => by omega, by decide⟩ (fun e => by omega) hx
theorem zb_51 {F : ov_H} {z : ov_Z} {h : ov_H} (I : ov_I F z h) : 0 ≤ (51 : Int) ∧ (51 : Int) < z.1 := ⟨by decide, by have := I.1.1.1; omega⟩
theorem zs_51 {F : ov_H} {z : ov_Z} {h : ov_H} (I : ov_I F z h) : z.2.2 51 = (9, 3) := I.1.1.2 51 (by decide) (by decide)
theorem rg_51_1 {F : ov_H} {z : ov_Z} {h : ov_H} (I : ov_I F z h) : (h 51 1) = 53 := (I.1.2.1 51 1 (by decide) (by decide)).1 rfl
theorem up_51_1 {F : ov_H} {z : ov_Z} {h : ov_H} (I : ov_I F z h) {x : Int} (hx : x = 53) : ov_I F z (ov_up h 51 1 x) := ov_I_up I ⟨fun q => by omega, by decide⟩ (fun e => by omega) ⟨fun _ => hx, fun e => absurd e (by decide)⟩
theorem rg_51_2 {F : ov_H} {z : ov_Z} {h : ov_H} (I : ov_I F z h) : (-2147483648) ≤ (h 51 2) ∧ (h 51 2) ≤ 2147483647 := (I.1.2.1 51 2 (by decide) (by decide)).2 rfl
theorem up_51_2 {F : ov_H} {z : ov_Z} {h : ov_H} (I : ov_I F z h) {x : Int} (hx : (-2147483648) ≤ x ∧ x ≤ 2147483647) : ov_I F z (ov_up h 51 2 x) := ov_I_up I ⟨fun q => by omega, by decide⟩ (fun e => by omega) ⟨fun e => absurd e (by decide), fun _ => hx⟩
theorem zb_52 {F : ov_H} {z : ov_Z} {h : ov_H} (I : ov_I F z h) : 0 ≤ (52 : Int) ∧ (52 : Int) < z.1 := ⟨by decide, by have := I.1.1.1; omega⟩
theorem zs_52 {F : ov_H} {z : ov_Z} {h : ov_H} (I : ov_I F z h) : z.2.2 52 = (1, 0) := I.1.1.2 52 (by decide) (by decide)
theorem ua_52 {F : ov_H} {z : ov_Z} {h : ov_H} (I : ov_I F z h) {k x : Int} : ov_I F z (ov_up h 52 k x) := ov_I_up I ⟨fun q => by omega, by decide⟩ (fun e => by omega) trivial
theorem zb_53 {F : ov_H} {z : ov_Z} {h : ov_H} (I : ov_I F z h) : 0 ≤ (53 : Int) ∧ (53 : Int) < z.1 := ⟨by decide, by have := I.1.1.1; omega⟩
theorem zs_53 {F : ov_H} {z : ov_Z} {h : ov_H} (I : ov_I F z h) : z.2.2 53 = (0, 54) := I.1.1.2 53 (by decide) (by decide)
theorem ra_53 {F : ov_H} {z : ov_Z} {h : ov_H} (I : ov_I F z h) (k : Int) : (-2147483648) ≤ (h 53 k) ∧ (h 53 k) ≤ 2147483647 := I.1.2.1 53 k (by decide) (by decide)
theorem ua_53 {F : ov_H} {z : ov_Z} {h : ov_H} (I : ov_I F z h) {k x : Int} (hx : (-2147483648) ≤ x ∧ x ≤ 2147483647) : ov_I F z (ov_up h 53 k x) := ov_I_up I ⟨fun q => by omega, by decide⟩ (fun e => by omega) hx
theorem zb_54 {F : ov_H} {z : ov_Z} {h : ov_H} (I : ov_I F z h) : 0 ≤ (54 : Int) ∧ (54 : Int) < z.1 := ⟨by decide, by have := I.1.1.1; omega⟩
theorem zs_54 {F : ov_H} {z : ov_Z} {h : ov_H} (I : ov_I F z h) : z.2.2 54 = (16, 9) := I.1.1.2 54 (by decide) (by decide)
theorem rg_54_0 {F : ov_H} {z : ov_Z} {h : ov_H} (I : ov_I F z h) : (-2147483648) ≤ (h 54 0) ∧ (h 54 0) ≤ 2147483647 := (I.1.2.1 54 0 (by decide) (by decide)).1 rfl
theorem up_54_0 {F : ov_H} {z : ov_Z} {h : ov_H} (I : ov_I F z h) {x : Int} (hx : (-2147483648) ≤ x ∧ x ≤ 2147483647) : ov_I F z (ov_up h 54 0 x) := ov_I_up I ⟨fun q => by omega, by decide⟩ (fun e => by omega) ⟨fun _ => hx, fun e => absurd e (by decide), fun e => absurd e (by decide), fun e => absurd e (by decide), fun e => absurd e (by decide), fun e => absurd e (by decide), fun e => absurd e (by decide), fun e => absurd e (by decide), fun e => absurd e (by decide)⟩
theorem rg_54_1 {F : ov_H} {z : ov_Z} {h : ov_H} (I : ov_I F z h) : (h 54 1) = 55 := (I.1.2.1 54 1 (by decide) (by decide)).2.1 rfl
theorem up_54_1 {F : ov_H} {z : ov_Z} {h : ov_H} (I : ov_I F z h) {x : Int} (hx : x = 55) : ov_I F z (ov_up h 54 1 x) := ov_I_up I ⟨fun q => by omega, by decide⟩ (fun e => by omega) ⟨fun e => absurd e (by decide), fun _ => hx, fun e => absurd e (by decide), fun e => absurd e (by decide), fun e => absurd e (by decide), fun e => absurd e (by decide), fun e => absurd e (by decide), fun e => absurd e (by decide), fun e => absurd e (by decide)⟩
theorem rg_54_2 {F : ov_H} {z : ov_Z} {h : ov_H} (I : ov_I F z h) : (h 54 2) = 56 := (I.1.2.1 54 2 (by decide) (by decide)).2.2.1 rfl
theorem up_54_2 {F : ov_H} {z : ov_Z} {h : ov_H} (I : ov_I F z h) {x : Int} (hx : x = 56) : ov_I F z (ov_up h 54 2 x) := ov_I_up I ⟨fun q => by omega, by decide⟩ (fun e => by omega) ⟨fun e => absurd e (by decide), fun e => absurd e (by decide), fun _ => hx, fun e => absurd e (by decide), fun e => absurd e (by decide), fun e => absurd e (by decide), fun e => absurd e (by decide), fun e => absurd e (by decide), fun e => absurd e (by decide)⟩
theorem rg_54_3 {F : ov_H} {z : ov_Z} {h : ov_H} (I : ov_I F z h) : (h 54 3) = 57 := (I.1.2.1 54 3 (by decide) (by decide)).2.2.2.1 rfl
theorem up_54_3 {F : ov_H} {z : ov_Z} {h : ov_H} (I : ov_I F z h) {x : Int} (hx : x = 57) : ov_I F z (ov_up h 54 3 x) := ov_I_up I ⟨fun q => by omega, by decide⟩ (fun e => by omega) ⟨fun e => absurd e (by decide), fun e => absurd e (by decide), fun e => absurd e (by decide), fun _ => hx, fun e => absurd e (by decide), fun e => absurd e (by decide), fun e => absurd e (by decide), fun e => absurd e (by decide), fun e => absurd e (by decide)⟩
theorem rg_54_4 {F : ov_H} {z : ov_Z} {h : ov_H} (I : ov_I F z h) : 0 ≤ (h 54 4) ∧ (h 54 4) ≤ 4 := (I.1.2.1 54 4 (by decide) (by decide)).2.2.2.2.1 rfl
theorem up_54_4 {F : ov_H} {z : ov_Z} {h : ov_H} (I : ov_I F z h) {x : Int} (hx : 0 ≤ x ∧ x ≤ 4) : ov_I F z (ov_up h 54 4 x) := ov_I_up I ⟨fun q => by omega, by decide⟩ (fun e => by omega) ⟨fun e => absurd e (by decide), fun e => absurd e (by decide), fun e => absurd e (by decide), fun e => absurd e (by decide), fun _ => hx, fun e => absurd e (by decide), fun e => absurd e (by decide), fun e => absurd e (by decide), fun e => absurd e (by decide)⟩
theorem rg_54_5 {F : ov_H} {z : ov_Z} {h : ov_H} (I : ov_I F z h) : 0 ≤ (h 54 5) ∧ (h 54 5) ≤ 60 := (I.1.2.1 54 5 (by decide) (by decide)).2.2.2.2.2.1 rfl
theorem up_54_5 {F : ov_H} {z : ov_Z} {h : ov_H} (I : ov_I F z h) {x : Int} (hx : 0 ≤ x ∧ x ≤ 60) : ov_I F z (ov_up h 54 5 x) := ov_I_up I ⟨fun q => by omega, by decide⟩ (fun e => by omega) ⟨fun e => absurd e (by decide), fun e => absurd e (by decide), fun e => absurd e (by decide), fun e => absurd e (by decide), fun e => absurd e (by decide), fun _ => hx, fun e => absurd e (by decide), fun e => absurd e (by decide), fun e => absurd e (by decide)⟩
theorem rg_54_6 {F : ov_H} {z : ov_Z} {h : ov_H} (I : ov_I F z h) : (-1) ≤ (h 54 6) ∧ (h 54 6) ≤ 30 := (I.1.2.1 54 6 (by decide) (by decide)).2.2.2.2.2.2.1 rfl
theorem up_54_6 {F : ov_H} {z : ov_Z} {h : ov_H} (I : ov_I F z h) {x : Int} (hx : (-1) ≤ x ∧ x ≤ 30) : ov_I F z (ov_up h 54 6 x) := ov_I_up I ⟨fun q => by omega, by decide⟩ (fun e => by omega) ⟨fun e => absurd e (by decide), fun e => absurd e (by decide), fun e => absurd e (by decide), fun e => absurd e (by decide), fun e => absurd e (by decide), fun e => absurd e (by decide), fun _ => hx, fun e => absurd e (by decide), fun e => absurd e (by decide)⟩
theorem rg_54_7 {F : ov_H} {z : ov_Z} {h : ov_H} (I : ov_I F z h) : 0 ≤ (h 54 7) ∧ (h 54 7) ≤ 1 := (I.1.2.1 54 7 (by decide) (by decide)).2.2.2.2.2.2.2.1 rfl
theorem up_54_7 {F : ov_H} {z : ov_Z} {h : ov_H} (I : ov_I F z h) {x : Int} (hx : 0 ≤ x ∧ x ≤ 1) : ov_I F z (ov_up h 54 7 x) := ov_I_up I ⟨fun q => by omega, by decide⟩ (fun e => by omega) ⟨fun e => absurd e (by decide), fun e => absurd e (by decide), fun e => absurd e (by decide), fun e => absurd e (by decide), fun e => absurd e (by decide), fun e => absurd e (by decide), fun e => absurd e (by decide), fun _ => hx, fun e => absurd e (by decide)⟩
theorem rg_54_8 {F : ov_H} {z : ov_Z} {h : ov_H} (I : ov_I F z h) : (-2147483648) ≤ (h 54 8) ∧ (h 54 8) ≤ 2147483647 := (I.1.2.1 54 8 (by decide) (by decide)).2.2.2.2.2.2.2.2 rfl
theorem up_54_8 {F : ov_H} {z : ov_Z} {h : ov_H} (I : ov_I F z h) {x : Int} (hx : (-2147483648) ≤ x ∧ x ≤ 2147483647) : ov_I F z (ov_up h 54 8 x) := ov_I_up I ⟨fun q => by omega, by decide⟩ (fun e => by omega) ⟨fun e => absurd e (by decide), fun e => absurd e (by decide), fun e => absurd e (by decide), fun e => absurd e (by decide), fun e => absurd e (by decide), fun e => absurd e (by decide), fun e => absurd e (by decide), fun e => absurd e (by decide), fun _ => hx⟩
theorem zb_55 {F : ov_H} {z : ov_Z} {h : ov_H} (I : ov_I F z h) : 0 ≤ (55 : Int) ∧ (55 : Int) < z.1 := ⟨by decide, by have := I.1.1.1; omega⟩
theorem zs_55 {F : ov_H} {z : ov_Z} {h : ov_H} (I : ov_I F z h) : z.2.2 55 = (0, 4) := I.1.1.2 55 (by decide) (by decide)
theorem ra_55 {F : ov_H} {z : ov_Z} {h : ov_H} (I : ov_I F z h) (k : Int) : (-2147483648) ≤ (h 55 k) ∧ (h 55 k) ≤ 2147483647 := I.1.2.1 55 k (by decide) (by decide)
theorem ua_55 {F : ov_H} {z : ov_Z} {h : ov_H} (I : ov_I F z h) {k x : Int} (hx : (-2147483648) ≤ x ∧ x ≤ 2147483647) : ov_I F z (ov_up h 55 k x) := ov_I_up I ⟨fun q => by omega, by decide⟩ (fun e => by omega) hx
theorem zb_56 {F : ov_H} {z : ov_Z} {h : ov_H} (I : ov_I F z h) : 0 ≤ (56 : Int) ∧ (56 : Int) < z.1 := ⟨by decide, by have := I.1.1.1; omega⟩
theorem zs_56 {F : ov_H} {z : ov_Z} {h : ov_H} (I : ov_I F z h) : z.2.2 56 = (0, 4) := I.1.1.2 56 (by decide) (by decide)
theorem ra_56 {F : ov_H} {z : ov_Z} {h : ov_H} (I : ov_I F z h) (k : Int) : (-2147483648) ≤ (h 56 k) ∧ (h 56 k) ≤ 2147483647 := I.1.2.1 56 k (by decide) (by decide)
theorem ua_56 {F : ov_H} {z : ov_Z} {h : ov_H} (I : ov_I F z h) {k x : Int} (hx : (-2147483648) ≤ x ∧ x ≤ 2147483647) : ov_I F z (ov_up h 56 k x) := ov_I_up I ⟨fun q => by omega, by decide⟩ (fun e => by omega) hx
theorem zb_57 {F : ov_H} {z : ov_Z} {h : ov_H} (I : ov_I F z h) : 0 ≤ (57 : Int) ∧ (57 : Int) < z.1 := ⟨by decide, by have := I.1.1.1; omega⟩
theorem zs_57 {F : ov_H} {z : ov_Z} {h : ov_H} (I : ov_I F z h) : z.2.2 57 = (1, 4) := I.1.1.2 57 (by decide) (by decide)
theorem ua_57 {F : ov_H} {z : ov_Z} {h : ov_H} (I : ov_I F z h) {k x : Int} : ov_I F z (ov_up h 57 k x) := ov_I_up I ⟨fun q => by omega, by decide⟩ (fun e => by omega) trivial
theorem zb_58 {F : ov_H} {z : ov_Z} {h : ov_H} (I : ov_I F z h) : 0 ≤ (58 : Int) ∧ (58 : Int) < z.1 := ⟨by decide, by have := I.1.1.1; omega⟩
theorem zs_58 {F : ov_H} {z : ov_Z} {h : ov_H} (I : ov_I F z h) : z.2.2 58 = (14, 18) := I.1.1.2 58 (by decide) (by decide)
theorem rg_58_0 {F : ov_H} {z : ov_Z} {h : ov_H} (I : ov_I F z h) : 0 ≤ (h 58 0) ∧ (h 58 0) ≤ 6 := (I.1.2.1 58 0 (by decide) (by decide)).1 rfl
theorem up_58_0 {F : ov_H} {z : ov_Z} {h : ov_H} (I : ov_I F z h) {x : Int} (hx : 1 ≤ x ∧ x ≤ 6) : ov_I F z (ov_up h 58 0 x) := ov_I_up I ⟨fun q => by omega, by decide⟩ (fun _ _ => hx.1) ⟨fun _ => ⟨by omega, hx.2⟩, fun e => absurd e (by decide), fun e => absurd e (by decide), fun e => absurd e (by decide), fun e => absurd e (by decide), fun e => absurd e (by decide), fun e => absurd e (by decide), fun e => absurd e (by decide), fun e => absurd e (by decide), fun e => absurd e (by decide), fun e => absurd e (by decide), fun e => absurd e (by decide), fun e => absurd e (by decide), fun e => absurd e (by decide), fun e => absurd e (by decide), fun e => absurd e (by decide), fun e => absurd e (by decide), fun e => absurd e (by decide)⟩
theorem rg_58_1 {F : ov_H} {z : ov_Z} {h : ov_H} (I : ov_I F z h) : 0 ≤ (h 58 1) ∧ (h 58 1) ≤ 9 := (I.1.2.1 58 1 (by decide) (by decide)).2.1 rfl
theorem up_58_1 {F : ov_H} {z : ov_Z} {h : ov_H} (I : ov_I F z h) {x : Int} (hx : 1 ≤ x ∧ x ≤ 9) : ov_I F z (ov_up h 58 1 x) := ov_I_up I ⟨fun q => by omega, by decide⟩ (fun _ _ => hx.1) ⟨fun e => absurd e (by decide), fun _ => ⟨by omega, hx.2⟩, fun e => absurd e (by decide), fun e => absurd e (by decide), fun e => absurd e (by decide), fun e => absurd e (by decide), fun e => absurd e (by decide), fun e => absurd e (by decide), fun e => absurd e (by decide), fun e => absurd e (by decide), fun e => absurd e (by decide), fun e => absurd e (by decide), fun e => absurd e (by decide), fun e => absurd e (by decide), fun e => absurd e (by decide), fun e => absurd e (by decide), fun e => absurd e (by decide), fun e => absurd e (by decide)⟩
theorem rg_58_2 {F : ov_H} {z : ov_Z} {h : ov_H} (I : ov_I F z h) : (h 58 2) = 59 := (I.1.2.1 58 2 (by decide) (by decide)).2.2.1 rfl
theorem up_58_2 {F : ov_H} {z : ov_Z} {h : ov_H} (I : ov_I F z h) {x : Int} (hx : x = 59) : ov_I F z (ov_up h 58 2 x) := ov_I_up I ⟨fun q => by omega, by decide⟩ (fun _ e => by omega) ⟨fun e => absurd e (by decide), fun e => absurd e (by decide), fun _ => hx, fun e => absurd e (by decide), fun e => absurd e (by decide), fun e => absurd e (by decide), fun e => absurd e (by decide), fun e => absurd e (by decide), fun e => absurd e (by decide), fun e => absurd e (by decide), fun e => absurd e (by decide), fun e => absurd e (by decide), fun e => absurd e (by decide), fun e => absurd e (by decide), fun e => absurd e (by decide), fun e => absurd e (by decide), fun e => absurd e (by decide), fun e => absurd e (by decide)⟩
theorem rg_58_3 {F : ov_H} {z : ov_Z} {h : ov_H} (I : ov_I F z h) : (h 58 3) = 60 := (I.1.2.1 58 3 (by decide) (by decide)).2.2.2.1 rfl
theorem up_58_3 {F : ov_H} {z : ov_Z} {h : ov_H} (I : ov_I F z h) {x : Int} (hx : x = 60) : ov_I F z (ov_up h 58 3 x) := ov_I_up I ⟨fun q => by omega, by decide⟩ (fun _ e => by omega) ⟨fun e => absurd e (by decide), fun e => absurd e (by decide), fun e => absurd e (by decide), fun _ => hx, fun e => absurd e (by decide), fun e => absurd e (by decide), fun e => absurd e (by decide), fun e => absurd e (by decide), fun e => absurd e (by decide), fun e => absurd e (by decide), fun e => absurd e (by decide), fun e => absurd e (by decide), fun e => absurd e (by decide), fun e => absurd e (by decide), fun e => absurd e (by decide), fun e => absurd e (by decide), fun e => absurd e (by decide), fun e => absurd e (by decide)⟩
theorem rg_58_4 {F : ov_H} {z : ov_Z} {h : ov_H} (I : ov_I F z h) : (h 58 4) = 61 := (I.1.2.1 58 4 (by decide) (by decide)).2.2.2.2.1 rfl
theorem up_58_4 {F : ov_H} {z : ov_Z} {h : ov_H} (I : ov_I F z h) {x : Int} (hx : x = 61) : ov_I F z (ov_up h 58 4 x) := ov_I_up I ⟨fun q => by omega, by decide⟩ (fun _ e => by omega) ⟨fun e => absurd e (by decide), fun e => absurd e (by decide), fun e => absurd e (by decide), fun e => absurd e (by decide), fun _ => hx, fun e => absurd e (by decide), fun e => absurd e (by decide), fun e => absurd e (by decide), fun e => absurd e (by decide), fun e => absurd e (by decide), fun e => absurd e (by decide), fun e => absurd e (by decide), fun e => absurd e (by decide), fun e => absurd e (by decide), fun e => absurd e (by decide), fun e => absurd e (by decide), fun e => absurd e (by decide), fun e => absurd e (by decide)⟩
theorem rg_58_5 {F : ov_H} {z : ov_Z} {h : ov_H} (I : ov_I F z h) : (h 58 5) = 62 := (I.1.2.1 58 5 (by decide) (by decide)).2.2.2.2.2.1 rfl
theorem up_58_5 {F : ov_H} {z : ov_Z} {h : ov_H} (I : ov_I F z h) {x : Int} (hx : x = 62) : ov_I F z (ov_up h 58 5 x) := ov_I_up I ⟨fun q => by omega, by decide⟩ (fun _ e => by omega) ⟨fun e => absurd e (by decide), fun e => absurd e (by decide), fun e => absurd e (by decide), fun e => absurd e (by decide), fun e => absurd e (by decide), fun _ => hx, fun e => absurd e (by decide), fun e => absurd e (by decide), fun e => absurd e (by decide), fun e => absurd e (by decide), fun e => absurd e (by decide), fun e => absurd e (by decide), fun e => absurd e (by decide), fun e => absurd e (by decide), fun e => absurd e (by decide), fun e => absurd e (by decide), fun e => absurd e (by decide), fun e => absurd e (by decide)⟩
theorem rg_58_6 {F : ov_H} {z : ov_Z} {h : ov_H} (I : ov_I F z h) : (h 58 6) = 63 := (I.1.2.1 58 6 (by decide) (by decide)).2.2.2.2.2.2.1 rfl
theorem up_58_6 {F : ov_H} {z : ov_Z} {h : ov_H} (I : ov_I F z h) {x : Int} (hx : x = 63) : ov_I F z (ov_up h 58 6 x) := ov_I_up I ⟨fun q => by omega, by decide⟩ (fun _ e => by omega) ⟨fun e => absurd e (by decide), fun e => absurd e (by decide), fun e => absurd e (by decide), fun e => absurd e (by decide), fun e => absurd e (by decide), fun e => absurd e (by decide), fun _ => hx, fun e => absurd e (by decide), fun e => absurd e (by decide), fun e => absurd e (by decide), fun e => absurd e (by decide), fun e => absurd e (by decide), fun e => absurd e (by decide), fun e => absurd e (by decide), fun e => absurd e (by decide), fun e => absurd e (by decide), fun e => absurd e (by decide), fun e => absurd e (by decide)⟩
theorem rg_58_7 {F : ov_H} {z : ov_Z} {h : ov_H} (I : ov_I F z h) : (h 58 7) = 64 := (I.1.2.1 58 7 (by decide) (by decide)).2.2.2.2.2.2.2.1 rfl
theorem up_58_7 {F : ov_H} {z : ov_Z} {h : ov_H} (I : ov_I F z h) {x : Int} (hx : x = 64) : ov_I F z (ov_up h 58 7 x) := ov_I_up I ⟨fun q => by omega, by decide⟩ (fun _ e => by omega) ⟨fun e => absurd e (by decide), fun e => absurd e (by decide), fun e => absurd e (by decide), fun e => absurd e (by decide), fun e => absurd e (by decide), fun e => absurd e (by decide), fun e => absurd e (by decide), fun _ => hx, fun e => absurd e (by decide), fun e => absurd e (by decide), fun e => absurd e (by decide), fun e => absurd e (by decide), fun e => absurd e (by decide), fun e => absurd e (by decide), fun e => absurd e (by decide), fun e => absurd e (by decide), fun e => absurd e (by decide), fun e => absurd e (by decide)⟩
theorem rg_58_8 {F : ov_H} {z : ov_Z} {h : ov_H} (I : ov_I F z h) : 0 ≤ (h 58 8) ∧ (h 58 8) ≤ 1 := (I.1.2.1 58 8 (by decide) (by decide)).2.2.2.2.2.2.2.2.1 rfl
theorem up_58_8 {F : ov_H} {z : ov_Z} {h : ov_H} (I : ov_I F z h) {x : Int} (hx : 0 ≤ x ∧ x ≤ 1) : ov_I F z (ov_up h 58 8 x) := ov_I_up I ⟨fun q => by omega, by decide⟩ (fun _ e => by omega) ⟨fun e => absurd e (by decide), fun e => absurd e (by decide), fun e => absurd e (by decide), fun e => absurd e (by decide), fun e => absurd e (by decide), fun e => absurd e (by decide), fun e => absurd e (by decide), fun e => absurd e (by decide), fun _ => hx, fun e => absurd e (by decide), fun e => absurd e (by decide), fun e => absurd e (by decide), fun e => absurd e (by decide), fun e => absurd e (by decide), fun e => absurd e (by decide), fun e => absurd e (by decide), fun e => absurd e (by decide), fun e => absurd e (by decide)⟩
theorem rg_58_9 {F : ov_H} {z : ov_Z} {h : ov_H} (I : ov_I F z h) : (-2147483648) ≤ (h 58 9) ∧ (h 58 9) ≤ 2147483647 := (I.1.2.1 58 9 (by decide) (by decide)).2.2.2.2.2.2.2.2.2.1 rfl
theorem up_58_9 {F : ov_H} {z : ov_Z} {h : ov_H} (I : ov_I F z h) {x : Int} (hx : (-2147483648) ≤ x ∧ x ≤ 2147483647) : ov_I F z (ov_up h 58 9 x) := ov_I_up I ⟨fun q => by omega, by decide⟩ (fun _ e => by omega) ⟨fun e => absurd e (by decide), fun e => absurd e (by decide), fun e => absurd e (by decide), fun e => absurd e (by decide), fun e => absurd e (by decide), fun e => absurd e (by decide), fun e => absurd e (by decide), fun e => absurd e (by decide), fun e => absurd e (by decide), fun _ => hx, fun e => absurd e (by decide), fun e => absurd e (by decide), fun e => absurd e (by decide), fun e => absurd e (by decide), fun e => absurd e (by decide), fun e => absurd e (by decide), fun e => absurd e (by decide), fun e => absurd e (by decide)⟩
theorem rg_58_10 {F : ov_H} {z : ov_Z} {h : ov_H} (I : ov_I F z h) : 0 ≤ (h 58 10) ∧ (h 58 10) ≤ 1200 := (I.1.2.1 58 10 (by decide) (by decide)).2.2.2.2.2.2.2.2.2.2.1 rfl
theorem up_58_10 {F : ov_H} {z : ov_Z} {h : ov_H} (I : ov_I F z h) {x : Int} (hx : 0 ≤ x ∧ x ≤ 1200) : ov_I F z (ov_up h 58 10 x) := ov_I_up I ⟨fun q => by omega, by decide⟩ (fun _ e => by omega) ⟨fun e => absurd e (by decide), fun e => absurd e (by decide), fun e => absurd e (by decide), fun e => absurd e (by decide), fun e => absurd e (by decide), fun e => absurd e (by decide), fun e => absurd e (by decide), fun e => absurd e (by decide), fun e => absurd e (by decide), fun e => absurd e (by decide), fun _ => hx, fun e => absurd e (by decide), fun e => absurd e (by decide), fun e => absurd e (by decide), fun e => absurd e (by decide), fun e => absurd e (by decide), fun e => absurd e (by decide), fun e => absurd e (by decide)⟩
theorem rg_58_11 {F : ov_H} {z : ov_Z} {h : ov_H} (I : ov_I F z h) : 0 ≤ (h 58 11) ∧ (h 58 11) ≤ 4 := (I.1.2.1 58 11 (by decide) (by decide)).2.2.2.2.2.2.2.2.2.2.2.1 rfl
theorem up_58_11 {F : ov_H} {z : ov_Z} {h : ov_H} (I : ov_I F z h) {x : Int} (hx : 0 ≤ x ∧ x ≤ 4) : ov_I F z (ov_up h 58 11 x) := ov_I_up I ⟨fun q => by omega, by decide⟩ (fun _ e => by omega) ⟨fun e => absurd e (by decide), fun e => absurd e (by decide), fun e => absurd e (by decide), fun e => absurd e (by decide), fun e => absurd e (by decide), fun e => absurd e (by decide), fun e => absurd e (by decide), fun e => absurd e (by decide), fun e => absurd e (by decide), fun e => absurd e (by decide), fun e => absurd e (by decide), fun _ => hx, fun e => absurd e (by decide), fun e => absurd e (by decide), fun e => absurd e (by decide), fun e => absurd e (by decide), fun e => absurd e (by decide), fun e => absurd e (by decide)⟩
theorem rg_58_12 {F : ov_H} {z : ov_Z} {h : ov_H} (I : ov_I F z h) : (h 58 12) = 65 := (I.1.2.1 58 12 (by decide) (by decide)).2.2.2.2.2.2.2.2.2.2.2.2.1 rfl
theorem up_58_12 {F : ov_H} {z : ov_Z} {h : ov_H} (I : ov_I F z h) {x : Int} (hx : x = 65) : ov_I F z (ov_up h 58 12 x) := ov_I_up I ⟨fun q => by omega, by decide⟩ (fun _ e => by omega) ⟨fun e => absurd e (by decide), fun e => absurd e (by decide), fun e => absurd e (by decide), fun e => absurd e (by decide), fun e => absurd e (by decide), fun e => absurd e (by decide), fun e => absurd e (by decide), fun e => absurd e (by decide), fun e => absurd e (by decide), fun e => absurd e (by decide), fun e => absurd e (by decide), fun e => absurd e (by decide), fun _ => hx, fun e => absurd e (by decide), fun e => absurd e (by decide), fun e => absurd e (by decide), fun e => absurd e (by decide), fun e => absurd e (by decide)⟩
theorem rg_58_13 {F : ov_H} {z : ov_Z} {h : ov_H} (I : ov_I F z h) : (h 58 13) = 66 := (I.1.2.1 58 13 (by decide) (by decide)).2.2.2.2.2.2.2.2.2.2.2.2.2.1 rfl
theorem up_58_13 {F : ov_H} {z : ov_Z} {h : ov_H} (I : ov_I F z h) {x : Int} (hx : x = 66) : ov_I F z (ov_up h 58 13 x) := ov_I_up I ⟨fun q => by omega, by decide⟩ (fun _ e => by omega) ⟨fun e => absurd e (by decide), fun e => absurd e (by decide), fun e => absurd e (by decide), fun e => absurd e (by decide), fun e => absurd e (by decide), fun e => absurd e (by decide), fun e => absurd e (by decide), fun e => absurd e (by decide), fun e => absurd e (by decide), fun e => absurd e (by decide), fun e => absurd e (by decide), fun e => absurd e (by decide), fun e => absurd e (by decide), fun _ => hx, fun e => absurd e (by decide), fun e => absurd e (by decide), fun e => absurd e (by decide), fun e => absurd e (by decide)⟩
theorem rg_58_14 {F : ov_H} {z : ov_Z} {h : ov_H} (I : ov_I F z h) : (h 58 14) = 67 := (I.1.2.1 58 14 (by decide) (by decide)).2.2.2.2.2.2.2.2.2.2.2.2.2.2.1 rfl
theorem up_58_14 {F : ov_H} {z : ov_Z} {h : ov_H} (I : ov_I F z h) {x : Int} (hx : x = 67) : ov_I F z (ov_up h 58 14 x) := ov_I_up I ⟨fun q => by omega, by decide⟩ (fun _ e => by omega) ⟨fun e => absurd e (by decide), fun e => absurd e (by decide), fun e => absurd e (by decide), fun e => absurd e (by decide), fun e => absurd e (by decide), fun e => absurd e (by decide), fun e => absurd e (by decide), fun e => absurd e (by decide), fun e => absurd e (by decide), fun e => absurd e (by decide), fun e => absurd e (by decide), fun e => absurd e (by decide), fun e => absurd e (by decide), fun e => absurd e (by decide), fun _ => hx, fun e => absurd e (by decide), fun e => absurd e (by decide), fun e => absurd e (by decide)⟩
theorem rg_58_15 {F : ov_H} {z : ov_Z} {h : ov_H} (I : ov_I F z h) : (h 58 15) = 68 := (I.1.2.1 58 15 (by decide) (by decide)).2.2.2.2.2.2.2.2.2.2.2.2.2.2.2.1 rfl
theorem up_58_15 {F : ov_H} {z : ov_Z} {h : ov_H} (I : ov_I F z h) {x : Int} (hx : x = 68) : ov_I F z (ov_up h 58 15 x) := ov_I_up I ⟨fun q => by omega, by decide⟩ (fun _ e => by omega) ⟨fun e => absurd e (by decide), fun e => absurd e (by decide), fun e => absurd e (by decide), fun e => absurd e (by decide), fun e => absurd e (by decide), fun e => absurd e (by decide), fun e => absurd e (by decide), fun e => absurd e (by decide), fun e => absurd e (by decide), fun e => absurd e (by decide), fun e => absurd e (by decide), fun e => absurd e (by decide), fun e => absurd e (by decide), fun e => absurd e (by decide), fun e => absurd e (by decide), fun _ => hx, fun e => absurd e (by decide), fun e => absurd e (by decide)⟩
theorem rg_58_16 {F : ov_H} {z : ov_Z} {h : ov_H} (I : ov_I F z h) : 0 ≤ (h 58 16) ∧ (h 58 16) ≤ 1000 := (I.1.2.1 58 16 (by decide) (by decide)).2.2.2.2.2.2.2.2.2.2.2.2.2.2.2.2.1 rfl
theorem up_58_16 {F : ov_H} {z : ov_Z} {h : ov_H} (I : ov_I F z h) {x : Int} (hx : 0 ≤ x ∧ x ≤ 1000) : ov_I F z (ov_up h 58 16 x) := ov_I_up I ⟨fun q => by omega, by decide⟩ (fun _ e => by omega) ⟨fun e => absurd e (by decide), fun e => absurd e (by decide), fun e => absurd e (by decide), fun e => absurd e (by decide), fun e => absurd e (by decide), fun e => absurd e (by decide), fun e => absurd e (by decide), fun e => absurd e (by decide), fun e => absurd e (by decide), fun e => absurd e (by decide), fun e => absurd e (by decide), fun e => absurd e (by decide), fun e => absurd e (by decide), fun e => absurd e (by decide), fun e => absurd e (by decide), fun e => absurd e (by decide), fun _ => hx, fun e => absurd e (by decide)⟩
theorem rg_58_17 {F : ov_H} {z : ov_Z} {h : ov_H} (I : ov_I F z h) : (h 58 17) = 69 := (I.1.2.1 58 17 (by decide) (by decide)).2.2.2.2.2.2.2.2.2.2.2.2.2.2.2.2.2 rfl
theorem up_58_17 {F : ov_H} {z : ov_Z} {h : ov_H} (I : ov_I F z h) {x : Int} (hx : x = 69) : ov_I F z (ov_up h 58 17 x) := ov_I_up I ⟨fun q => by omega, by decide⟩ (fun _ e => by omega) ⟨fun e => absurd e (by decide), fun e => absurd e (by decide), fun e => absurd e (by decide), fun e => absurd e (by decide), fun e => absurd e (by decide), fun e => absurd e (by decide), fun e => absurd e (by decide), fun e => absurd e (by decide), fun e => absurd e (by decide), fun e => absurd e (by decide), fun e => absurd e (by decide), fun e => absurd e (by decide), fun e => absurd e (by decide), fun e => absurd e (by decide), fun e => absurd e (by decide), fun e => absurd e (by decide), fun e => absurd e (by decide), fun _ => hx⟩
theorem zb_59 {F : ov_H} {z : ov_Z} {h : ov_H} (I : ov_I F z h) : 0 ≤ (59 : Int) ∧ (59 : Int) < z.1 := ⟨by decide, by have := I.1.1.1; omega⟩
theorem zs_59 {F : ov_H} {z : ov_Z} {h : ov_H} (I : ov_I F z h) : z.2.2 59 = (0, 54) := I.1.1.2 59 (by decide) (by decide)
theorem ra_59 {F : ov_H} {z : ov_Z} {h : ov_H} (I : ov_I F z h) (k : Int) : (-1) ≤ (h 59 k) ∧ (h 59 k) ≤ 3 := I.1.2.1 59 k (by decide) (by decide)
theorem ua_59 {F : ov_H} {z : ov_Z} {h : ov_H} (I : ov_I F z h) {k x : Int} (hx : (-1) ≤ x ∧ x ≤ 3) : ov_I F z (ov_up h 59 k x) := ov_I_up I ⟨fun q => by omega, by decide⟩ (fun e => by omega) hx
theorem zb_60 {F : ov_H} {z : ov_Z} {h : ov_H} (I : ov_I F z h) : 0 ≤ (60 : Int) ∧ (60 : Int) < z.1 := ⟨by decide, by have := I.1.1.1; omega⟩
theorem zs_60 {F : ov_H} {z : ov_Z} {h : ov_H} (I : ov_I F z h) : z.2.2 60 = (0, 54) := I.1.1.2 60 (by decide) (by decide)
theorem ra_60 {F : ov_H} {z : ov_Z} {h : ov_H} (I : ov_I F z h) (k : Int) : 0 ≤ (h 60 k) ∧ (h 60 k) ≤ 60 := I.1.2.1 60 k (by decide) (by decide)
theorem ua_60 {F : ov_H} {z : ov_Z} {h : ov_H} (I : ov_I F z h) {k x : Int} (hx : 0 ≤ x ∧ x ≤ 60) : ov_I F z (ov_up h 60 k x) := ov_I_up I ⟨fun q => by omega, by decide⟩ (fun e => by omega) hx
theorem zb_61 {F : ov_H} {z : ov_Z} {h : ov_H} (I : ov_I F z h) : 0 ≤ (61 : Int) ∧ (61 : Int) < z.1 := ⟨by decide, by have := I.1.1.1; omega⟩
theorem zs_61 {F : ov_H} {z : ov_Z} {h : ov_H} (I : ov_I F z h) : z.2.2 61 = (0, 54) := I.1.1.2 61 (by decide) (by decide)
theorem ra_61 {F : ov_H} {z : ov_Z} {h : ov_H} (I : ov_I F z h) (k : Int) : 0 ≤ (h 61 k) ∧ (h 61 k) ≤ 59 := I.1.2.1 61 k (by decide) (by decide)
theorem ua_61 {F : ov_H} {z : ov_Z} {h : ov_H} (I : ov_I F z h) {k x : Int} (hx : 0 ≤ x ∧ x ≤ 59) : ov_I F z (ov_up h 61 k x) := ov_I_up I ⟨fun q => by omega, by decide⟩ (fun e => by omega) hx
theorem zb_62 {F : ov_H} {z : ov_Z} {h : ov_H} (I : ov_I F z h) : 0 ≤ (62 : Int) ∧ (62 : Int) < z.1 := ⟨by decide, by have := I.1.1.1; omega⟩
theorem zs_62 {F : ov_H} {z : ov_Z} {h : ov_H} (I : ov_I F z h) : z.2.2 62 = (0, 54) := I.1.1.2 62 (by decide) (by decide)
theorem ra_62 {F : ov_H} {z : ov_Z} {h : ov_H} (I : ov_I F z h) (k : Int) : 0 ≤ (h 62 k) ∧ (h 62 k) ≤ 60 := I.1.2.1 62 k (by decide) (by decide)
theorem ua_62 {F : ov_H} {z : ov_Z} {h : ov_H} (I : ov_I F z h) {k x : Int} (hx : 0 ≤ x ∧ x ≤ 60) : ov_I F z (ov_up h 62 k x) := ov_I_up I ⟨fun q => by omega, by decide⟩ (fun e => by omega) hx
theorem zb_63 {F : ov_H} {z : ov_Z} {h : ov_H} (I : ov_I F z h) : 0 ≤ (63 : Int) ∧ (63 : Int) < z.1 := ⟨by decide, by have := I.1.1.1; omega⟩
theorem zs_63 {F : ov_H} {z : ov_Z} {h : ov_H} (I : ov_I F z h) : z.2.2 63 = (0, 54) := I.1.1.2 63 (by decide) (by decide)
theorem ra_63 {F : ov_H} {z : ov_Z} {h : ov_H} (I : ov_I F z h) (k : Int) : (-2147483648) ≤ (h 63 k) ∧ (h 63 k) ≤ 2147483647 := I.1.2.1 63 k (by decide) (by decide)
theorem ua_63 {F : ov_H} {z : ov_Z} {h : ov_H} (I : ov_I F z h) {k x : Int} (hx : (-2147483648) ≤ x ∧ x ≤ 2147483647) : ov_I F z (ov_up h 63 k x) := ov_I_up I ⟨fun q => by omega, by decide⟩ (fun e => by omega) hx
theorem zb_64 {F : ov_H} {z : ov_Z} {h : ov_H} (I : ov_I F z h) : 0 ≤ (64 : Int) ∧ (64 : Int) < z.1 := ⟨by decide, by have := I.1.1.1; omega⟩
theorem zs_64 {F : ov_H} {z : ov_Z} {h : ov_H} (I : ov_I F z h) : z.2.2 64 = (0, 4) := I.1.1.2 64 (by decide) (by decide)
theorem ra_64 {F : ov_H} {z : ov_Z} {h : ov_H} (I : ov_I F z h) (k : Int) : -1 ≤ (h 64 k) ∧ (h 64 k) ≤ 30 ∧ (k = 3 → (h 64 k) ≤ 9) := I.1.2.1 64 k (by decide) (by decide)
theorem ua_64 {F : ov_H} {z : ov_Z} {h : ov_H} (I : ov_I F z h) {k x : Int} (hx : -1 ≤ x ∧ x ≤ 30 ∧ (k = 3 → x ≤ 9)) : ov_I F z (ov_up h 64 k x) := ov_I_up I ⟨fun q => by omega, by decide⟩ (fun e => by omega) hx
theorem zb_65 {F : ov_H} {z : ov_Z} {h : ov_H} (I : ov_I F z h) : 0 ≤ (65 : Int) ∧ (65 : Int) < z.1 := ⟨by decide, by have := I.1.1.1; omega⟩
theorem zs_65 {F : ov_H} {z : ov_Z} {h : ov_H} (I : ov_I F z h) : z.2.2 65 = (0, 54) := I.1.1.2 65 (by decide) (by decide)
theorem ra_65 {F : ov_H} {z : ov_Z} {h : ov_H} (I : ov_I F z h) (k : Int) : 0 ≤ (h 65 k) ∧ (h 65 k) ≤ 3 ∧ (48 ≤ k → (h 65 k) ≤ 1) ∧ (53 ≤ k → (h 65 k) ≤ 0) := I.1.2.1 65 k (by decide) (by decide)
theorem ua_65 {F : ov_H} {z : ov_Z} {h : ov_H} (I : ov_I F z h) {k x : Int} (hx : 0 ≤ x ∧ x ≤ 3 ∧ (48 ≤ k → x ≤ 1) ∧ (53 ≤ k → x ≤ 0)) : ov_I F z (ov_up h 65 k x) := ov_I_up I ⟨fun q => by omega, by decide⟩ (fun e => by omega) hx
theorem zb_66 {F : ov_H} {z : ov_Z} {h : ov_H} (I : ov_I F z h) : 0 ≤ (66 : Int) ∧ (66 : Int) < z.1 := ⟨by decide, by have := I.1.1.1; omega⟩
theorem zs_66 {F : ov_H} {z : ov_Z} {h : ov_H} (I : ov_I F z h) : z.2.2 66 = (1, 4) := I.1.1.2 66 (by decide) (by decide)
theorem ua_66 {F : ov_H} {z : ov_Z} {h : ov_H} (I : ov_I F z h) {k x : Int} : ov_I F z (ov_up h 66 k x) := ov_I_up I ⟨fun q => by omega, by decide⟩ (fun e => by omega) trivial
theorem zb_67 {F : ov_H} {z : ov_Z} {h : ov_H} (I : ov_I F z h) : 0 ≤ (67 : Int) ∧ (67 : Int) < z.1 := ⟨by decide, by have := I.1.1.1; omega⟩
theorem zs_67 {F : ov_H} {z : ov_Z} {h : ov_H} (I : ov_I F z h) : z.2.2 67 = (0, 4) := I.1.1.2 67 (by decide) (by decide)
theorem ra_67 {F : ov_H} {z : ov_Z} {h : ov_H} (I : ov_I F z h) (k : Int) : 0 ≤ (h 67 k) ∧ (h 67 k) ≤ 1000 := I.1.2.1 67 k (by decide) (by decide)
theorem ua_67 {F : ov_H} {z : ov_Z} {h : ov_H} (I : ov_I F z h) {k x : Int} (hx : 0 ≤ x ∧ x ≤ 1000) : ov_I F z (ov_up h 67 k x) := ov_I_up I ⟨fun q => by omega, by decide⟩ (fun e => by omega) hx
theorem zb_68 {F : ov_H} {z : ov_Z} {h : ov_H} (I : ov_I F z h) : 0 ≤ (68 : Int) ∧ (68 : Int) < z.1 := ⟨by decide, by have := I.1.1.1; omega⟩
theorem zs_68 {F : ov_H} {z : ov_Z} {h : ov_H} (I : ov_I F z h) : z.2.2 68 = (0, 1000) := I.1.1.2 68 (by decide) (by decide)
theorem ra_68 {F : ov_H} {z : ov_Z} {h : ov_H} (I : ov_I F z h) (k : Int) : (-2147483648) ≤ (h 68 k) ∧ (h 68 k) ≤ 2147483647 := I.1.2.1 68 k (by decide) (by decide)
theorem ua_68 {F : ov_H} {z : ov_Z} {h : ov_H} (I : ov_I F z h) {k x : Int} (hx : (-2147483648) ≤ x ∧ x ≤ 2147483647) : ov_I F z (ov_up h 68 k x) := ov_I_up I ⟨fun q => by omega, by decide⟩ (fun e => by omega) hx
theorem zb_69 {F : ov_H} {z : ov_Z} {h : ov_H} (I : ov_I F z h) : 0 ≤ (69 : Int) ∧ (69 : Int) < z.1 := ⟨by decide, by have := I.1.1.1; omega⟩
theorem zs_69 {F : ov_H} {z : ov_Z} {h : ov_H} (I : ov_I F z h) : z.2.2 69 = (0, 64) := I.1.1.2 69 (by decide) (by decide)
theorem ra_69 {F : ov_H} {z : ov_Z} {h : ov_H} (I : ov_I F z h) (k : Int) : (-2147483648) ≤ (h 69 k) ∧ (h 69 k) ≤ 2147483647 := I.1.2.1 69 k (by decide) (by decide)
theorem ua_69 {F : ov_H} {z : ov_Z} {h : ov_H} (I : ov_I F z h) {k x : Int} (hx : (-2147483648) ≤ x ∧ x ≤ 2147483647) : ov_I F z (ov_up h 69 k x) := ov_I_up I ⟨fun q => by omega, by decide⟩ (fun e => by omega) hx
theorem zb_70 {F : ov_H} {z : ov_Z} {h : ov_H} (I : ov_I F z h) : 0 ≤ (70 : Int) ∧ (70 : Int) < z.1 := ⟨by decide, by have := I.1.1.1; omega⟩
theorem zs_70 {F : ov_H} {z : ov_Z} {h : ov_H} (I : ov_I F z h) : z.2.2 70 = (14, 18) := I.1.1.2 70 (by decide) (by decide)
theorem rg_70_0 {F : ov_H} {z : ov_Z} {h : ov_H} (I : ov_I F z h) : 0 ≤ (h 70 0) ∧ (h 70 0) ≤ 6 := (I.1.2.1 70 0 (by decide) (by decide)).1 rfl
theorem up_70_0 {F : ov_H} {z : ov_Z} {h : ov_H} (I : ov_I F z h) {x : Int} (hx : 1 ≤ x ∧ x ≤ 6) : ov_I F z (ov_up h 70 0 x) := ov_I_up I ⟨fun q => by omega, by decide⟩ (fun _ _ => hx.1) ⟨fun _ => ⟨by omega, hx.2⟩, fun e => absurd e (by decide), fun e => absurd e (by decide), fun e => absurd e (by decide), fun e => absurd e (by decide), fun e => absurd e (by decide), fun e => absurd e (by decide), fun e => absurd e (by decide), fun e => absurd e (by decide), fun e => absurd e (by decide), fun e => absurd e (by decide), fun e => absurd e (by decide), fun e => absurd e (by decide), fun e => absurd e (by decide), fun e => absurd e (by decide), fun e => absurd e (by decide), fun e => absurd e (by decide), fun e => absurd e (by decide)⟩
theorem rg_70_1 {F : ov_H} {z : ov_Z} {h : ov_H} (I : ov_I F z h) : 0 ≤ (h 70 1) ∧ (h 70 1) ≤ 9 := (I.1.2.1 70 1 (by decide) (by decide)).2.1 rfl
theorem up_70_1 {F : ov_H} {z : ov_Z} {h : ov_H} (I : ov_I F z h) {x : Int} (hx : 1 ≤ x ∧ x ≤ 9) : ov_I F z (ov_up h 70 1 x) := ov_I_up I ⟨fun q => by omega, by decide⟩ (fun _ _ => hx.1) ⟨fun e => absurd e (by decide), fun _ => ⟨by omega, hx.2⟩, fun e => absurd e (by decide), fun e => absurd e (by decide), fun e => absurd e (by decide), fun e => absurd e (by decide), fun e => absurd e (by decide), fun e => absurd e (by decide), fun e => absurd e (by decide), fun e => absurd e (by decide), fun e => absurd e (by decide), fun e => absurd e (by decide), fun e => absurd e (by decide), fun e => absurd e (by decide), fun e => absurd e (by decide), fun e => absurd e (by decide), fun e => absurd e (by decide), fun e => absurd e (by decide)⟩
theorem rg_70_2 {F : ov_H} {z : ov_Z} {h : ov_H} (I : ov_I F z h) : (h 70 2) = 71 := (I.1.2.1 70 2 (by decide) (by decide)).2.2.1 rfl
theorem up_70_2 {F : ov_H} {z : ov_Z} {h : ov_H} (I : ov_I F z h) {x : Int} (hx : x = 71) : ov_I F z (ov_up h 70 2 x) := ov_I_up I ⟨fun q => by omega, by decide⟩ (fun _ e => by omega) ⟨fun e => absurd e (by decide), fun e => absurd e (by decide), fun _ => hx, fun e => absurd e (by decide), fun e => absurd e (by decide), fun e => absurd e (by decide), fun e => absurd e (by decide), fun e => absurd e (by decide), fun e => absurd e (by decide), fun e => absurd e (by decide), fun e => absurd e (by decide), fun e => absurd e (by decide), fun e => absurd e (by decide), fun e => absurd e (by decide), fun e => absurd e (by decide), fun e => absurd e (by decide), fun e => absurd e (by decide), fun e => absurd e (by decide)⟩
theorem rg_70_3 {F : ov_H} {z : ov_Z} {h : ov_H} (I : ov_I F z h) : (h 70 3) = 72 := (I.1.2.1 70 3 (by decide) (by decide)).2.2.2.1 rfl
theorem up_70_3 {F : ov_H} {z : ov_Z} {h : ov_H} (I : ov_I F z h) {x : Int} (hx : x = 72) : ov_I F z (ov_up h 70 3 x) := ov_I_up I ⟨fun q => by omega, by decide⟩ (fun _ e => by omega) ⟨fun e => absurd e (by decide), fun e => absurd e (by decide), fun e => absurd e (by decide), fun _ => hx, fun e => absurd e (by decide), fun e => absurd e (by decide), fun e => absurd e (by decide), fun e => absurd e (by decide), fun e => absurd e (by decide), fun e => absurd e (by decide), fun e => absurd e (by decide), fun e => absurd e (by decide), fun e => absurd e (by decide), fun e => absurd e (by decide), fun e => absurd e (by decide), fun e => absurd e (by decide), fun e => absurd e (by decide), fun e => absurd e (by decide)⟩
theorem rg_70_4 {F : ov_H} {z : ov_Z} {h : ov_H} (I : ov_I F z h) : (h 70 4) = 73 := (I.1.2.1 70 4 (by decide) (by decide)).2.2.2.2.1 rfl
theorem up_70_4 {F : ov_H} {z : ov_Z} {h : ov_H} (I : ov_I F z h) {x : Int} (hx : x = 73) : ov_I F z (ov_up h 70 4 x) := ov_I_up I ⟨fun q => by omega, by decide⟩ (fun _ e => by omega) ⟨fun e => absurd e (by decide), fun e => absurd e (by decide), fun e => absurd e (by decide), fun e => absurd e (by decide), fun _ => hx, fun e => absurd e (by decide), fun e => absurd e (by decide), fun e => absurd e (by decide), fun e => absurd e (by decide), fun e => absurd e (by decide), fun e => absurd e (by decide), fun e => absurd e (by decide), fun e => absurd e (by decide), fun e => absurd e (by decide), fun e => absurd e (by decide), fun e => absurd e (by decide), fun e => absurd e (by decide), fun e => absurd e (by decide)⟩
theorem rg_70_5 {F : ov_H} {z : ov_Z} {h : ov_H} (I : ov_I F z h) : (h 70 5) = 74 := (I.1.2.1 70 5 (by decide) (by decide)).2.2.2.2.2.1 rfl
theorem up_70_5 {F : ov_H} {z : ov_Z} {h : ov_H} (I : ov_I F z h) {x : Int} (hx : x = 74) : ov_I F z (ov_up h 70 5 x) := ov_I_up I ⟨fun q => by omega, by decide⟩ (fun _ e => by omega) ⟨fun e => absurd e (by decide), fun e => absurd e (by decide), fun e => absurd e (by decide), fun e => absurd e (by decide), fun e => absurd e (by decide), fun _ => hx, fun e => absurd e (by decide), fun e => absurd e (by decide), fun e => absurd e (by decide), fun e => absurd e (by decide), fun e => absurd e (by decide), fun e => absurd e (by decide), fun e => absurd e (by decide), fun e => absurd e (by decide), fun e => absurd e (by decide), fun e => absurd e (by decide), fun e => absurd e (by decide), fun e => absurd e (by decide)⟩
theorem rg_70_6 {F : ov_H} {z : ov_Z} {h : ov_H} (I : ov_I F z h) : (h 70 6) = 75 := (I.1.2.1 70 6 (by decide) (by decide)).2.2.2.2.2.2.1 rfl
theorem up_70_6 {F : ov_H} {z : ov_Z} {h : ov_H} (I : ov_I F z h) {x : Int} (hx : x = 75) : ov_I F z (ov_up h 70 6 x) := ov_I_up I ⟨fun q => by omega, by decide⟩ (fun _ e => by omega) ⟨fun e => absurd e (by decide), fun e => absurd e (by decide), fun e => absurd e (by decide), fun e => absurd e (by decide), fun e => absurd e (by decide), fun e => absurd e (by decide), fun _ => hx, fun e => absurd e (by decide), fun e => absurd e (by decide), fun e => absurd e (by decide), fun e => absurd e (by decide), fun e => absurd e (by decide), fun e => absurd e (by decide), fun e => absurd e (by decide), fun e => absurd e (by decide), fun e => absurd e (by decide), fun e => absurd e (by decide), fun e => absurd e (by decide)⟩
theorem rg_70_7 {F : ov_H} {z : ov_Z} {h : ov_H} (I : ov_I F z h) : (h 70 7) = 76 := (I.1.2.1 70 7 (by decide) (by decide)).2.2.2.2.2.2.2.1 rfl
theorem up_70_7 {F : ov_H} {z : ov_Z} {h : ov_H} (I : ov_I F z h) {x : Int} (hx : x = 76) : ov_I F z (ov_up h 70 7 x) := ov_I_up I ⟨fun q => by omega, by decide⟩ (fun _ e => by omega) ⟨fun e => absurd e (by decide), fun e => absurd e (by decide), fun e => absurd e (by decide), fun e => absurd e (by decide), fun e => absurd e (by decide), fun e => absurd e (by decide), fun e => absurd e (by decide), fun _ => hx, fun e => absurd e (by decide), fun e => absurd e (by decide), fun e => absurd e (by decide), fun e => absurd e (by decide), fun e => absurd e (by decide), fun e => absurd e (by decide), fun e => absurd e (by decide), fun e => absurd e (by decide), fun e => absurd e (by decide), fun e => absurd e (by decide)⟩
theorem rg_70_8 {F : ov_H} {z : ov_Z} {h : ov_H} (I : ov_I F z h) : 0 ≤ (h 70 8) ∧ (h 70 8) ≤ 1 := (I.1.2.1 70 8 (by decide) (by decide)).2.2.2.2.2.2.2.2.1 rfl
theorem up_70_8 {F : ov_H} {z : ov_Z} {h : ov_H} (I : ov_I F z h) {x : Int} (hx : 0 ≤ x ∧ x ≤ 1) : ov_I F z (ov_up h 70 8 x) := ov_I_up I ⟨fun q => by omega, by decide⟩ (fun _ e => by omega) ⟨fun e => absurd e (by decide), fun e => absurd e (by decide), fun e => absurd e (by decide), fun e => absurd e (by decide), fun e => absurd e (by decide), fun e => absurd e (by decide), fun e => absurd e (by decide), fun e => absurd e (by decide), fun _ => hx, fun e => absurd e (by decide), fun e => absurd e (by decide), fun e => absurd e (by decide), fun e => absurd e (by decide), fun e => absurd e (by decide), fun e => absurd e (by decide), fun e => absurd e (by decide), fun e => absurd e (by decide), fun e => absurd e (by decide)⟩
theorem rg_70_9 {F : ov_H} {z : ov_Z} {h : ov_H} (I : ov_I F z h) : (-2147483648) ≤ (h 70 9) ∧ (h 70 9) ≤ 2147483647 := (I.1.2.1 70 9 (by decide) (by decide)).2.2.2.2.2.2.2.2.2.1 rfl
theorem up_70_9 {F : ov_H} {z : ov_Z} {h : ov_H} (I : ov_I F z h) {x : Int} (hx : (-2147483648) ≤ x ∧ x ≤ 2147483647) : ov_I F z (ov_up h 70 9 x) := ov_I_up I ⟨fun q => by omega, by decide⟩ (fun _ e => by omega) ⟨fun e => absurd e (by decide), fun e => absurd e (by decide), fun e => absurd e (by decide), fun e => absurd e (by decide), fun e => absurd e (by decide), fun e => absurd e (by decide), fun e => absurd e (by decide), fun e => absurd e (by decide), fun e => absurd e (by decide), fun _ => hx, fun e => absurd e (by decide), fun e => absurd e (by decide), fun e => absurd e (by decide), fun e => absurd e (by decide), fun e => absurd e (by decide), fun e => absurd e (by decide), fun e => absurd e (by decide), fun e => absurd e (by decide)⟩
theorem rg_70_10 {F : ov_H} {z : ov_Z} {h : ov_H} (I : ov_I F z h) : 0 ≤ (h 70 10) ∧ (h 70 10) ≤ 1200 := (I.1.2.1 70 10 (by decide) (by decide)).2.2.2.2.2.2.2.2.2.2.1 rfl
theorem up_70_10 {F : ov_H} {z : ov_Z} {h : ov_H} (I : ov_I F z h) {x : Int} (hx : 0 ≤ x ∧ x ≤ 1200) : ov_I F z (ov_up h 70 10 x) := ov_I_up I ⟨fun q => by omega, by decide⟩ (fun _ e => by omega) ⟨fun e => absurd e (by decide), fun e => absurd e (by decide), fun e => absurd e (by decide), fun e => absurd e (by decide), fun e => absurd e (by decide), fun e => absurd e (by decide), fun e => absurd e (by decide), fun e => absurd e (by decide), fun e => absurd e (by decide), fun e => absurd e (by decide), fun _ => hx, fun e => absurd e (by decide), fun e => absurd e (by decide), fun e => absurd e (by decide), fun e => absurd e (by decide), fun e => absurd e (by decide), fun e => absurd e (by decide), fun e => absurd e (by decide)⟩
theorem rg_70_11 {F : ov_H} {z : ov_Z} {h : ov_H} (I : ov_I F z h) : 0 ≤ (h 70 11) ∧ (h 70 11) ≤ 4 := (I.1.2.1 70 11 (by decide) (by decide)).2.2.2.2.2.2.2.2.2.2.2.1 rfl
theorem up_70_11 {F : ov_H} {z : ov_Z} {h : ov_H} (I : ov_I F z h) {x : Int} (hx : 0 ≤ x ∧ x ≤ 4) : ov_I F z (ov_up h 70 11 x) := ov_I_up I ⟨fun q => by omega, by decide⟩ (fun _ e => by omega) ⟨fun e => absurd e (by decide), fun e => absurd e (by decide), fun e => absurd e (by decide), fun e => absurd e (by decide), fun e => absurd e (by decide), fun e => absurd e (by decide), fun e => absurd e (by decide), fun e => absurd e (by decide), fun e => absurd e (by decide), fun e => absurd e (by decide), fun e => absurd e (by decide), fun _ => hx, fun e => absurd e (by decide), fun e => absurd e (by decide), fun e => absurd e (by decide), fun e => absurd e (by decide), fun e => absurd e (by decide), fun e => absurd e (by decide)⟩
theorem rg_70_12 {F : ov_H} {z : ov_Z} {h : ov_H} (I : ov_I F z h) : (h 70 12) = 77 := (I.1.2.1 70 12 (by decide) (by decide)).2.2.2.2.2.2.2.2.2.2.2.2.1 rfl
theorem up_70_12 {F : ov_H} {z : ov_Z} {h : ov_H} (I : ov_I F z h) {x : Int} (hx : x = 77) : ov_I F z (ov_up h 70 12 x) := ov_I_up I ⟨fun q => by omega, by decide⟩ (fun _ e => by omega) ⟨fun e => absurd e (by decide), fun e => absurd e (by decide), fun e => absurd e (by decide), fun e => absurd e (by decide), fun e => absurd e (by decide), fun e => absurd e (by decide), fun e => absurd e (by decide), fun e => absurd e (by decide), fun e => absurd e (by decide), fun e => absurd e (by decide), fun e => absurd e (by decide), fun e => absurd e (by decide), fun _ => hx, fun e => absurd e (by decide), fun e => absurd e (by decide), fun e => absurd e (by decide), fun e => absurd e (by decide), fun e => absurd e (by decide)⟩
theorem rg_70_13 {F : ov_H} {z : ov_Z} {h : ov_H} (I : ov_I F z h) : (h 70 13) = 78 := (I.1.2.1 70 13 (by decide) (by decide)).2.2.2.2.2.2.2.2.2.2.2.2.2.1 rfl
theorem up_70_13 {F : ov_H} {z : ov_Z} {h : ov_H} (I : ov_I F z h) {x : Int} (hx : x = 78) : ov_I F z (ov_up h 70 13 x) := ov_I_up I ⟨fun q => by omega, by decide⟩ (fun _ e => by omega) ⟨fun e => absurd e (by decide), fun e => absurd e (by decide), fun e => absurd e (by decide), fun e => absurd e (by decide), fun e => absurd e (by decide), fun e => absurd e (by decide), fun e => absurd e (by decide), fun e => absurd e (by decide), fun e => absurd e (by decide), fun e => absurd e (by decide), fun e => absurd e (by decide), fun e => absurd e (by decide), fun e => absurd e (by decide), fun _ => hx, fun e => absurd e (by decide), fun e => absurd e (by decide), fun e => absurd e (by decide), fun e => absurd e (by decide)⟩
theorem rg_70_14 {F : ov_H} {z : ov_Z} {h : ov_H} (I : ov_I F z h) : (h 70 14) = 79 := (I.1.2.1 70 14 (by decide) (by decide)).2.2.2.2.2.2.2.2.2.2.2.2.2.2.1 rfl
theorem up_70_14 {F : ov_H} {z : ov_Z} {h : ov_H} (I : ov_I F z h) {x : Int} (hx : x = 79) : ov_I F z (ov_up h 70 14 x) := ov_I_up I ⟨fun q => by omega, by decide⟩ (fun _ e => by omega) ⟨fun e => absurd e (by decide), fun e => absurd e (by decide), fun e => absurd e (by decide), fun e => absurd e (by decide), fun e => absurd e (by decide), fun e => absurd e (by decide), fun e => absurd e (by decide), fun e => absurd e (by decide), fun e => absurd e (by decide), fun e => absurd e (by decide), fun e => absurd e (by decide), fun e => absurd e (by decide), fun e => absurd e (by decide), fun e => absurd e (by decide), fun _ => hx, fun e => absurd e (by decide), fun e => absurd e (by decide), fun e => absurd e (by decide)⟩
theorem rg_70_15 {F : ov_H} {z : ov_Z} {h : ov_H} (I : ov_I F z h) : (h 70 15) = 80 := (I.1.2.1 70 15 (by decide) (by decide)).2.2.2.2.2.2.2.2.2.2.2.2.2.2.2.1 rfl
theorem up_70_15 {F : ov_H} {z : ov_Z} {h : ov_H} (I : ov_I F z h) {x : Int} (hx : x = 80) : ov_I F z (ov_up h 70 15 x) := ov_I_up I ⟨fun q => by omega, by decide⟩ (fun _ e => by omega) ⟨fun e => absurd e (by decide), fun e => absurd e (by decide), fun e => absurd e (by decide), fun e => absurd e (by decide), fun e => absurd e (by decide), fun e => absurd e (by decide), fun e => absurd e (by decide), fun e => absurd e (by decide), fun e => absurd e (by decide), fun e => absurd e (by decide), fun e => absurd e (by decide), fun e => absurd e (by decide), fun e => absurd e (by decide), fun e => absurd e (by decide), fun e => absurd e (by decide), fun _ => hx, fun e => absurd e (by decide), fun e => absurd e (by decide)⟩
theorem rg_70_16 {F : ov_H} {z : ov_Z} {h : ov_H} (I : ov_I F z h) : 0 ≤ (h 70 16) ∧ (h 70 16) ≤ 1000 := (I.1.2.1 70 16 (by decide) (by decide)).2.2.2.2.2.2.2.2.2.2.2.2.2.2.2.2.1 rfl
theorem up_70_16 {F : ov_H} {z : ov_Z} {h : ov_H} (I : ov_I F z h) {x : Int} (hx : 0 ≤ x ∧ x ≤ 1000) : ov_I F z (ov_up h 70 16 x) := ov_I_up I ⟨fun q => by omega, by decide⟩ (fun _ e => by omega) ⟨fun e => absurd e (by decide), fun e => absurd e (by decide), fun e => absurd e (by decide), fun e => absurd e (by decide), fun e => absurd e (by decide), fun e => absurd e (by decide), fun e => absurd e (by decide), fun e => absurd e (by decide), fun e => absurd e (by decide), fun e => absurd e (by decide), fun e => absurd e (by decide), fun e => absurd e (by decide), fun e => absurd e (by decide), fun e => absurd e (by decide), fun e => absurd e (by decide), fun e => absurd e (by decide), fun _ => hx, fun e => absurd e (by decide)⟩
theorem rg_70_17 {F : ov_H} {z : ov_Z} {h : ov_H} (I : ov_I F z h) : (h 70 17) = 81 := (I.1.2.1 70 17 (by decide) (by decide)).2.2.2.2.2.2.2.2.2.2.2.2.2.2.2.2.2 rfl
theorem up_70_17 {F : ov_H} {z : ov_Z} {h : ov_H} (I : ov_I F z h) {x : Int} (hx : x = 81) : ov_I F z (ov_up h 70 17 x) := ov_I_up I ⟨fun q => by omega, by decide⟩ (fun _ e => by omega) ⟨fun e => absurd e (by decide), fun e => absurd e (by decide), fun e => absurd e (by decide), fun e => absurd e (by decide), fun e => absurd e (by decide), fun e => absurd e (by decide), fun e => absurd e (by decide), fun e => absurd e (by decide), fun e => absurd e (by decide), fun e => absurd e (by decide), fun e => absurd e (by decide), fun e => absurd e (by decide), fun e => absurd e (by decide), fun e => absurd e (by decide), fun e => absurd e (by decide), fun e => absurd e (by decide), fun e => absurd e (by decide), fun _ => hx⟩
theorem zb_71 {F : ov_H} {z : ov_Z} {h : ov_H} (I : ov_I F z h) : 0 ≤ (71 : Int) ∧ (71 : Int) < z.1 := ⟨by decide, by have := I.1.1.1; omega⟩
theorem zs_71 {F : ov_H} {z : ov_Z} {h : ov_H} (I : ov_I F z h) : z.2.2 71 = (0, 54) := I.1.1.2 71 (by decide) (by decide)
theorem ra_71 {F : ov_H} {z : ov_Z} {h : ov_H} (I : ov_I F z h) (k : Int) : (-1) ≤ (h 71 k) ∧ (h 71 k) ≤ 3 := I.1.2.1 71 k (by decide) (by decide)
theorem ua_71 {F : ov_H} {z : ov_Z} {h : ov_H} (I : ov_I F z h) {k x : Int} (hx : (-1) ≤ x ∧ x ≤ 3) : ov_I F z (ov_up h 71 k x) := ov_I_up I ⟨fun q => by omega, by decide⟩ (fun e => by omega) hx
theorem zb_72 {F : ov_H} {z : ov_Z} {h : ov_H} (I : ov_I F z h) : 0 ≤ (72 : Int) ∧ (72 : Int) < z.1 := ⟨by decide, by have := I.1.1.1; omega⟩
theorem zs_72 {F : ov_H} {z : ov_Z} {h : ov_H} (I : ov_I F z h) : z.2.2 72 = (0, 54) := I.1.1.2 72 (by decide) (by decide)
theorem ra_72 {F : ov_H} {z : ov_Z} {h : ov_H} (I : ov_I F z h) (k : Int) : 0 ≤ (h 72 k) ∧ (h 72 k) ≤ 60 := I.1.2.1 72 k (by decide) (by decide)
theorem ua_72 {F : ov_H} {z : ov_Z} {h : ov_H} (I : ov_I F z h) {k x : Int} (hx : 0 ≤ x ∧ x ≤ 60) : ov_I F z (ov_up h 72 k x) := ov_I_up I ⟨fun q => by omega, by decide⟩ (fun e => by omega) hx
theorem zb_73 {F : ov_H} {z : ov_Z} {h : ov_H} (I : ov_I F z h) : 0 ≤ (73 : Int) ∧ (73 : Int) < z.1 := ⟨by decide, by have := I.1.1.1; omega⟩
theorem zs_73 {F : ov_H} {z : ov_Z} {h : ov_H} (I : ov_I F z h) : z.2.2 73 = (0, 54) := I.1.1.2 73 (by decide) (by decide)
theorem ra_73 {F : ov_H} {z : ov_Z} {h : ov_H} (I : ov_I F z h) (k : Int) : 0 ≤ (h 73 k) ∧ (h 73 k) ≤ 59 := I.1.2.1 73 k (by decide) (by decide)
theorem ua_73 {F : ov_H} {z : ov_Z} {h : ov_H} (I : ov_I F z h) {k x : Int} (hx : 0 ≤ x ∧ x ≤ 59) : ov_I F z (ov_up h 73 k x) := ov_I_up I ⟨fun q => by omega, by decide⟩ (fun e => by omega) hx
theorem zb_74 {F : ov_H} {z : ov_Z} {h : ov_H} (I : ov_I F z h) : 0 ≤ (74 : Int) ∧ (74 : Int) < z.1 := ⟨by decide, by have := I.1.1.1; omega⟩
theorem zs_74 {F : ov_H} {z : ov_Z} {h : ov_H} (I : ov_I F z h) : z.2.2 74 = (0, 54) := I.1.1.2 74 (by decide) (by decide)
theorem ra_74 {F : ov_H} {z : ov_Z} {h : ov_H} (I : ov_I F z h) (k : Int) : 0 ≤ (h 74 k) ∧ (h 74 k) ≤ 60 := I.1.2.1 74 k (by decide) (by decide)
theorem ua_74 {F : ov_H} {z : ov_Z} {h : ov_H} (I : ov_I F z h) {k x : Int} (hx : 0 ≤ x ∧ x ≤ 60) : ov_I F z (ov_up h 74 k x) := ov_I_up I ⟨fun q => by omega, by decide⟩ (fun e => by omega) hx
theorem zb_75 {F : ov_H} {z : ov_Z} {h : ov_H} (I : ov_I F z h) : 0 ≤ (75 : Int) ∧ (75 : Int) < z.1 := ⟨by decide, by have := I.1.1.1; omega⟩
theorem zs_75 {F : ov_H} {z : ov_Z} {h : ov_H} (I : ov_I F z h) : z.2.2 75 = (0, 54) := I.1.1.2 75 (by decide) (by decide)
theorem ra_75 {F : ov_H} {z : ov_Z} {h : ov_H} (I : ov_I F z h) (k : Int) : (-2147483648) ≤ (h 75 k) ∧ (h 75 k) ≤ 2147483647 := I.1.2.1 75 k (by decide) (by decide)
theorem ua_75 {F : ov_H} {z : ov_Z} {h : ov_H} (I : ov_I F z h) {k x : Int} (hx : (-2147483648) ≤ x ∧ x ≤ 2147483647) : ov_I F z (ov_up h 75 k x) := ov_I_up I ⟨fun q => by omega, by decide⟩ (fun e => by omega) hx
theorem zb_76 {F : ov_H} {z : ov_Z} {h : ov_H} (I : ov_I F z h) : 0 ≤ (76 : Int) ∧ (76 : Int) < z.1 := ⟨by decide, by have := I.1.1.1; omega⟩
theorem zs_76 {F : ov_H} {z : ov_Z} {h : ov_H} (I : ov_I F z h) : z.2.2 76 = (0, 4) := I.1.1.2 76 (by decide) (by decide)
theorem ra_76 {F : ov_H} {z : ov_Z} {h : ov_H} (I : ov_I F z h) (k : Int) : -1 ≤ (h 76 k) ∧ (h 76 k) ≤ 30 ∧ (k = 3 → (h 76 k) ≤ 9) := I.1.2.1 76 k (by decide) (by decide)
theorem ua_76 {F : ov_H} {z : ov_Z} {h : ov_H} (I : ov_I F z h) {k x : Int} (hx : -1 ≤ x ∧ x ≤ 30 ∧ (k = 3 → x ≤ 9)) : ov_I F z (ov_up h 76 k x) := ov_I_up I ⟨fun q => by omega, by decide⟩ (fun e => by omega) hx
theorem zb_77 {F : ov_H} {z : ov_Z} {h : ov_H} (I : ov_I F z h) : 0 ≤ (77 : Int) ∧ (77 : Int) < z.1 := ⟨by decide, by have := I.1.1.1; omega⟩
theorem zs_77 {F : ov_H} {z : ov_Z} {h : ov_H} (I : ov_I F z h) : z.2.2 77 = (0, 54) := I.1.1.2 77 (by decide) (by decide)
theorem ra_77 {F : ov_H} {z : ov_Z} {h : ov_H} (I : ov_I F z h) (k : Int) : 0 ≤ (h 77 k) ∧ (h 77 k) ≤ 3 ∧ (48 ≤ k → (h 77 k) ≤ 1) ∧ (53 ≤ k → (h 77 k) ≤ 0) := I.1.2.1 77 k (by decide) (by decide)
theorem ua_77 {F : ov_H} {z : ov_Z} {h : ov_H} (I : ov_I F z h) {k x : Int} (hx : 0 ≤ x ∧ x ≤ 3 ∧ (48 ≤ k → x ≤ 1) ∧ (53 ≤ k → x ≤ 0)) : ov_I F z (ov_up h 77 k x) := ov_I_up I ⟨fun q => by omega, by decide⟩ (fun e => by omega) hx
theorem zb_78 {F : ov_H} {z : ov_Z} {h : ov_H} (I : ov_I F z h) : 0 ≤ (78 : Int) ∧ (78 : Int) < z.1 := ⟨by decide, by have := I.1.1.1; omega⟩
theorem zs_78 {F : ov_H} {z : ov_Z} {h : ov_H} (I : ov_I F z h) : z.2.2 78 = (1, 4) := I.1.1.2 78 (by decide) (by decide)
theorem ua_78 {F : ov_H} {z : ov_Z} {h : ov_H} (I : ov_I F z h) {k x : Int} : ov_I F z (ov_up h 78 k x) := ov_I_up I ⟨fun q => by omega, by decide⟩ (fun e => by omega) trivial
theorem zb_79 {F : ov_H} {z : ov_Z} {h : ov_H} (I : ov_I F z h) : 0 ≤ (79 : Int) ∧ (79 : Int) < z.1 := ⟨by decide, by have := I.1.1.1; omega⟩
theorem zs_79 {F : ov_H} {z : ov_Z} {h : ov_H} (I : ov_I F z h) : z.2.2 79 = (0, 4) := I.1.1.2 79 (by decide) (by decide)
theorem ra_79 {F : ov_H} {z : ov_Z} {h : ov_H} (I : ov_I F z h) (k : Int) : 0 ≤ (h 79 k) ∧ (h 79 k) ≤ 1000 := I.1.2.1 79 k (by decide) (by decide)
theorem ua_79 {F : ov_H} {z : ov_Z} {h : ov_H} (I : ov_I F z h) {k x : Int} (hx : 0 ≤ x ∧ x ≤ 1000) : ov_I F z (ov_up h 79 k x) := ov_I_up I ⟨fun q => by omega, by decide⟩ (fun e => by omega) hx
theorem zb_80 {F : ov_H} {z : ov_Z} {h : ov_H} (I : ov_I F z h) : 0 ≤ (80 : Int) ∧ (80 : Int) < z.1 := ⟨by decide, by have := I.1.1.1; omega⟩
theorem zs_80 {F : ov_H} {z : ov_Z} {h : ov_H} (I : ov_I F z h) : z.2.2 80 = (0, 1000) := I.1.1.2 80 (by decide) (by decide)
theorem ra_80 {F : ov_H} {z : ov_Z} {h : ov_H} (I : ov_I F z h) (k : Int) : (-2147483648) ≤ (h 80 k) ∧ (h 80 k) ≤ 2147483647 := I.1.2.1 80 k (by decide) (by decide)
theorem ua_80 {F : ov_H} {z : ov_Z} {h : ov_H} (I : ov_I F z h) {k x : Int} (hx : (-2147483648) ≤ x ∧ x ≤ 2147483647) : ov_I F z (ov_up h 80 k x) := ov_I_up I ⟨fun q => by omega, by decide⟩ (fun e => by omega) hx
theorem zb_81 {F : ov_H} {z : ov_Z} {h : ov_H} (I : ov_I F z h) : 0 ≤ (81 : Int) ∧ (81 : Int) < z.1 := ⟨by decide, by have := I.1.1.1; omega⟩
theorem zs_81 {F : ov_H} {z : ov_Z} {h : ov_H} (I : ov_I F z h) : z.2.2 81 = (0, 64) := I.1.1.2 81 (by decide) (by decide)
theorem ra_81 {F : ov_H} {z : ov_Z} {h : ov_H} (I : ov_I F z h) (k : Int) : (-2147483648) ≤ (h 81 k) ∧ (h 81 k) ≤ 2147483647 := I.1.2.1 81 k (by decide) (by decide)
theorem ua_81 {F : ov_H} {z : ov_Z} {h : ov_H} (I : ov_I F z h) {k x : Int} (hx : (-2147483648) ≤ x ∧ x ≤ 2147483647) : ov_I F z (ov_up h 81 k x) := ov_I_up I ⟨fun q => by omega, by decide⟩ (fun e => by omega) hx
theorem zb_82 {F : ov_H} {z : ov_Z} {h : ov_H} (I : ov_I F z h) : 0 ≤ (82 : Int) ∧ (82 : Int) < z.1 := ⟨by decide, by have := I.1.1.1; omega⟩
theorem zs_82 {F : ov_H} {z : ov_Z} {h : ov_H} (I : ov_I F z h) : z.2.2 82 = (15, 5) := I.1.1.2 82 (by decide) (by decide)
theorem rg_82_0 {F : ov_H} {z : ov_Z} {h : ov_H} (I : ov_I F z h) : 0 ≤ (h 82 0) ∧ (h 82 0) ≤ 13 := (I.1.2.1 82 0 (by decide) (by decide)).1 rfl
theorem up_82_0 {F : ov_H} {z : ov_Z} {h : ov_H} (I : ov_I F z h) {x : Int} (hx : 0 ≤ x ∧ x ≤ 13) : ov_I F z (ov_up h 82 0 x) := ov_I_up I ⟨fun q => by omega, by decide⟩ (fun e => by omega) ⟨fun _ => hx, fun e => absurd e (by decide), fun e => absurd e (by decide), fun e => absurd e (by decide), fun e => absurd e (by decide)⟩
theorem rg_82_1 {F : ov_H} {z : ov_Z} {h : ov_H} (I : ov_I F z h) : 0 ≤ (h 82 1) ∧ (h 82 1) ≤ 53 := (I.1.2.1 82 1 (by decide) (by decide)).2.1 rfl
theorem up_82_1 {F : ov_H} {z : ov_Z} {h : ov_H} (I : ov_I F z h) {x : Int} (hx : 0 ≤ x ∧ x ≤ 53) : ov_I F z (ov_up h 82 1 x) := ov_I_up I ⟨fun q => by omega, by decide⟩ (fun e => by omega) ⟨fun e => absurd e (by decide), fun _ => hx, fun e => absurd e (by decide), fun e => absurd e (by decide), fun e => absurd e (by decide)⟩
theorem rg_82_2 {F : ov_H} {z : ov_Z} {h : ov_H} (I : ov_I F z h) : (h 82 2) = 83 := (I.1.2.1 82 2 (by decide) (by decide)).2.2.1 rfl
theorem up_82_2 {F : ov_H} {z : ov_Z} {h : ov_H} (I : ov_I F z h) {x : Int} (hx : x = 83) : ov_I F z (ov_up h 82 2 x) := ov_I_up I ⟨fun q => by omega, by decide⟩ (fun e => by omega) ⟨fun e => absurd e (by decide), fun e => absurd e (by decide), fun _ => hx, fun e => absurd e (by decide), fun e => absurd e (by decide)⟩
theorem rg_82_3 {F : ov_H} {z : ov_Z} {h : ov_H} (I : ov_I F z h) : (h 82 3) = 84 := (I.1.2.1 82 3 (by decide) (by decide)).2.2.2.1 rfl
theorem up_82_3 {F : ov_H} {z : ov_Z} {h : ov_H} (I : ov_I F z h) {x : Int} (hx : x = 84) : ov_I F z (ov_up h 82 3 x) := ov_I_up I ⟨fun q => by omega, by decide⟩ (fun e => by omega) ⟨fun e => absurd e (by decide), fun e => absurd e (by decide), fun e => absurd e (by decide), fun _ => hx, fun e => absurd e (by decide)⟩
theorem rg_82_4 {F : ov_H} {z : ov_Z} {h : ov_H} (I : ov_I F z h) : (h 82 4) = 85 := (I.1.2.1 82 4 (by decide) (by decide)).2.2.2.2 rfl
theorem up_82_4 {F : ov_H} {z : ov_Z} {h : ov_H} (I : ov_I F z h) {x : Int} (hx : x = 85) : ov_I F z (ov_up h 82 4 x) := ov_I_up I ⟨fun q => by omega, by decide⟩ (fun e => by omega) ⟨fun e => absurd e (by decide), fun e => absurd e (by decide), fun e => absurd e (by decide), fun e => absurd e (by decide), fun _ => hx⟩
theorem zb_83 {F : ov_H} {z : ov_Z} {h : ov_H} (I : ov_I F z h) : 0 ≤ (83 : Int) ∧ (83 : Int) < z.1 := ⟨by decide, by have := I.1.1.1; omega⟩
theorem zs_83 {F : ov_H} {z : ov_Z} {h : ov_H} (I : ov_I F z h) : z.2.2 83 = (0, 13) := I.1.1.2 83 (by decide) (by decide)
theorem ra_83 {F : ov_H} {z : ov_Z} {h : ov_H} (I : ov_I F z h) (k : Int) : 0 ≤ (h 83 k) ∧ (h 83 k) ≤ 53 := I.1.2.1 83 k (by decide) (by decide)
theorem ua_83 {F : ov_H} {z : ov_Z} {h : ov_H} (I : ov_I F z h) {k x : Int} (hx : 0 ≤ x ∧ x ≤ 53) : ov_I F z (ov_up h 83 k x) := ov_I_up I ⟨fun q => by omega, by decide⟩ (fun e => by omega) hx
theorem zb_84 {F : ov_H} {z : ov_Z} {h : ov_H} (I : ov_I F z h) : 0 ≤ (84 : Int) ∧ (84 : Int) < z.1 := ⟨by decide, by have := I.1.1.1; omega⟩
theorem zs_84 {F : ov_H} {z : ov_Z} {h : ov_H} (I : ov_I F z h) : z.2.2 84 = (0, 13) := I.1.1.2 84 (by decide) (by decide)
theorem ra_84 {F : ov_H} {z : ov_Z} {h : ov_H} (I : ov_I F z h) (k : Int) : 0 ≤ (h 84 k) ∧ (h 84 k) ≤ 1 := I.1.2.1 84 k (by decide) (by decide)
theorem ua_84 {F : ov_H} {z : ov_Z} {h : ov_H} (I : ov_I F z h) {k x : Int} (hx : 0 ≤ x ∧ x ≤ 1) : ov_I F z (ov_up h 84 k x) := ov_I_up I ⟨fun q => by omega, by decide⟩ (fun e => by omega) hx
theorem zb_85 {F : ov_H} {z : ov_Z} {h : ov_H} (I : ov_I F z h) : 0 ≤ (85 : Int) ∧ (85 : Int) < z.1 := ⟨by decide, by have := I.1.1.1; omega⟩
theorem zs_85 {F : ov_H} {z : ov_Z} {h : ov_H} (I : ov_I F z h) : z.2.2 85 = (0, 13) := I.1.1.2 85 (by decide) (by decide)
theorem ra_85 {F : ov_H} {z : ov_Z} {h : ov_H} (I : ov_I F z h) (k : Int) : (-2147483648) ≤ (h 85 k) ∧ (h 85 k) ≤ 2147483647 := I.1.2.1 85 k (by decide) (by decide)
theorem ua_85 {F : ov_H} {z : ov_Z} {h : ov_H} (I : ov_I F z h) {k x : Int} (hx : (-2147483648) ≤ x ∧ x ≤ 2147483647) : ov_I F z (ov_up h 85 k x) := ov_I_up I ⟨fun q => by omega, by decide⟩ (fun e => by omega) hx
theorem zb_86 {F : ov_H} {z : ov_Z} {h : ov_H} (I : ov_I F z h) : 0 ≤ (86 : Int) ∧ (86 : Int) < z.1 := ⟨by decide, by have := I.1.1.1; omega⟩
theorem zs_86 {F : ov_H} {z : ov_Z} {h : ov_H} (I : ov_I F z h) : z.2.2 86 = (15, 5) := I.1.1.2 86 (by decide) (by decide)
theorem rg_86_0 {F : ov_H} {z : ov_Z} {h : ov_H} (I : ov_I F z h) : 0 ≤ (h 86 0) ∧ (h 86 0) ≤ 13 := (I.1.2.1 86 0 (by decide) (by decide)).1 rfl
theorem up_86_0 {F : ov_H} {z : ov_Z} {h : ov_H} (I : ov_I F z h) {x : Int} (hx : 0 ≤ x ∧ x ≤ 13) : ov_I F z (ov_up h 86 0 x) := ov_I_up I ⟨fun q => by omega, by decide⟩ (fun e => by omega) ⟨fun _ => hx, fun e => absurd e (by decide), fun e => absurd e (by decide), fun e => absurd e (by decide), fun e => absurd e (by decide)⟩
theorem rg_86_1 {F : ov_H} {z : ov_Z} {h : ov_H} (I : ov_I F z h) : 0 ≤ (h 86 1) ∧ (h 86 1) ≤ 53 := (I.1.2.1 86 1 (by decide) (by decide)).2.1 rfl
theorem up_86_1 {F : ov_H} {z : ov_Z} {h : ov_H} (I : ov_I F z h) {x : Int} (hx : 0 ≤ x ∧ x ≤ 53) : ov_I F z (ov_up h 86 1 x) := ov_I_up I ⟨fun q => by omega, by decide⟩ (fun e => by omega) ⟨fun e => absurd e (by decide), fun _ => hx, fun e => absurd e (by decide), fun e => absurd e (by decide), fun e => absurd e (by decide)⟩
theorem rg_86_2 {F : ov_H} {z : ov_Z} {h : ov_H} (I : ov_I F z h) : (h 86 2) = 87 := (I.1.2.1 86 2 (by decide) (by decide)).2.2.1 rfl
theorem up_86_2 {F : ov_H} {z : ov_Z} {h : ov_H} (I : ov_I F z h) {x : Int} (hx : x = 87) : ov_I F z (ov_up h 86 2 x) := ov_I_up I ⟨fun q => by omega, by decide⟩ (fun e => by omega) ⟨fun e => absurd e (by decide), fun e => absurd e (by decide), fun _ => hx, fun e => absurd e (by decide), fun e => absurd e (by decide)⟩
theorem rg_86_3 {F : ov_H} {z : ov_Z} {h : ov_H} (I : ov_I F z h) : (h 86 3) = 88 := (I.1.2.1 86 3 (by decide) (by decide)).2.2.2.1 rfl
theorem up_86_3 {F : ov_H} {z : ov_Z} {h : ov_H} (I : ov_I F z h) {x : Int} (hx : x = 88) : ov_I F z (ov_up h 86 3 x) := ov_I_up I ⟨fun q => by omega, by decide⟩ (fun e => by omega) ⟨fun e => absurd e (by decide), fun e => absurd e (by decide), fun e => absurd e (by decide), fun _ => hx, fun e => absurd e (by decide)⟩
theorem rg_86_4 {F : ov_H} {z : ov_Z} {h : ov_H} (I : ov_I F z h) : (h 86 4) = 89 := (I.1.2.1 86 4 (by decide) (by decide)).2.2.2.2 rfl
theorem up_86_4 {F : ov_H} {z : ov_Z} {h : ov_H} (I : ov_I F z h) {x : Int} (hx : x = 89) : ov_I F z (ov_up h 86 4 x) := ov_I_up I ⟨fun q => by omega, by decide⟩ (fun e => by omega) ⟨fun e => absurd e (by decide), fun e => absurd e (by decide), fun e => absurd e (by decide), fun e => absurd e (by decide), fun _ => hx⟩
theorem zb_87 {F : ov_H} {z : ov_Z} {h : ov_H} (I : ov_I F z h) : 0 ≤ (87 : Int) ∧ (87 : Int) < z.1 := ⟨by decide, by have := I.1.1.1; omega⟩
theorem zs_87 {F : ov_H} {z : ov_Z} {h : ov_H} (I : ov_I F z h) : z.2.2 87 = (0, 13) := I.1.1.2 87 (by decide) (by decide)
theorem ra_87 {F : ov_H} {z : ov_Z} {h : ov_H} (I : ov_I F z h) (k : Int) : 0 ≤ (h 87 k) ∧ (h 87 k) ≤ 53 := I.1.2.1 87 k (by decide) (by decide)
theorem ua_87 {F : ov_H} {z : ov_Z} {h : ov_H} (I : ov_I F z h) {k x : Int} (hx : 0 ≤ x ∧ x ≤ 53) : ov_I F z (ov_up h 87 k x) := ov_I_up I ⟨fun q => by omega, by decide⟩ (fun e => by omega) hx
theorem zb_88 {F : ov_H} {z : ov_Z} {h : ov_H} (I : ov_I F z h) : 0 ≤ (88 : Int) ∧ (88 : Int) < z.1 := ⟨by decide, by have := I.1.1.1; omega⟩
theorem zs_88 {F : ov_H} {z : ov_Z} {h : ov_H} (I : ov_I F z h) : z.2.2 88 = (0, 13) := I.1.1.2 88 (by decide) (by decide)
theorem ra_88 {F : ov_H} {z : ov_Z} {h : ov_H} (I : ov_I F z h) (k : Int) : 0 ≤ (h 88 k) ∧ (h 88 k) ≤ 1 := I.1.2.1 88 k (by decide) (by decide)
theorem ua_88 {F : ov_H} {z : ov_Z} {h : ov_H} (I : ov_I F z h) {k x : Int} (hx : 0 ≤ x ∧ x ≤ 1) : ov_I F z (ov_up h 88 k x) := ov_I_up I ⟨fun q => by omega, by decide⟩ (fun e => by omega) hx
theorem zb_89 {F : ov_H} {z : ov_Z} {h : ov_H} (I : ov_I F z h) : 0 ≤ (89 : Int) ∧ (89 : Int) < z.1 := ⟨by decide, by have := I.1.1.1; omega⟩
theorem zs_89 {F : ov_H} {z : ov_Z} {h : ov_H} (I : ov_I F z h) : z.2.2 89 = (0, 13) := I.1.1.2 89 (by decide) (by decide)
theorem ra_89 {F : ov_H} {z : ov_Z} {h : ov_H} (I : ov_I F z h) (k : Int) : (-2147483648) ≤ (h 89 k) ∧ (h 89 k) ≤ 2147483647 := I.1.2.1 89 k (by decide) (by decide)
theorem ua_89 {F : ov_H} {z : ov_Z} {h : ov_H} (I : ov_I F z h) {k x : Int} (hx : (-2147483648) ≤ x ∧ x ≤ 2147483647) : ov_I F z (ov_up h 89 k x) := ov_I_up I ⟨fun q => by omega, by decide⟩ (fun e => by omega) hx

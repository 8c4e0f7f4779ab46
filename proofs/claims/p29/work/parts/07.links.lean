theorem ov_ch0 {w : Cond} (h : w ∈ tables_1_1) : w ∈ lw_tbl := by
  show w ∈ k2_sels lw_privs ++ (tables_1_1 ++ (tables_1_2 ++ (tables_1_3 ++ (tables_1_4 ++ (tables_1_5 ++ (tables_1_6 ++ (tables_1_7 ++ (tables_1_8 ++ (tables_1_9)))))))))
  exact List.mem_append.mpr (Or.inr (List.mem_append.mpr (Or.inl h)))
theorem ov_ch1 {w : Cond} (h : w ∈ tables_1_2) : w ∈ lw_tbl := by
  show w ∈ k2_sels lw_privs ++ (tables_1_1 ++ (tables_1_2 ++ (tables_1_3 ++ (tables_1_4 ++ (tables_1_5 ++ (tables_1_6 ++ (tables_1_7 ++ (tables_1_8 ++ (tables_1_9)))))))))
  exact List.mem_append.mpr (Or.inr (List.mem_append.mpr (Or.inr (List.mem_append.mpr (Or.inl h)))))
theorem ov_ch2 {w : Cond} (h : w ∈ tables_1_3) : w ∈ lw_tbl := by
  show w ∈ k2_sels lw_privs ++ (tables_1_1 ++ (tables_1_2 ++ (tables_1_3 ++ (tables_1_4 ++ (tables_1_5 ++ (tables_1_6 ++ (tables_1_7 ++ (tables_1_8 ++ (tables_1_9)))))))))
  exact List.mem_append.mpr (Or.inr (List.mem_append.mpr (Or.inr (List.mem_append.mpr (Or.inr (List.mem_append.mpr (Or.inl h)))))))
theorem ov_ch3 {w : Cond} (h : w ∈ tables_1_4) : w ∈ lw_tbl := by
  show w ∈ k2_sels lw_privs ++ (tables_1_1 ++ (tables_1_2 ++ (tables_1_3 ++ (tables_1_4 ++ (tables_1_5 ++ (tables_1_6 ++ (tables_1_7 ++ (tables_1_8 ++ (tables_1_9)))))))))
  exact List.mem_append.mpr (Or.inr (List.mem_append.mpr (Or.inr (List.mem_append.mpr (Or.inr (List.mem_append.mpr (Or.inr (List.mem_append.mpr (Or.inl h)))))))))
theorem ov_ch4 {w : Cond} (h : w ∈ tables_1_5) : w ∈ lw_tbl := by
  show w ∈ k2_sels lw_privs ++ (tables_1_1 ++ (tables_1_2 ++ (tables_1_3 ++ (tables_1_4 ++ (tables_1_5 ++ (tables_1_6 ++ (tables_1_7 ++ (tables_1_8 ++ (tables_1_9)))))))))
  exact List.mem_append.mpr (Or.inr (List.mem_append.mpr (Or.inr (List.mem_append.mpr (Or.inr (List.mem_append.mpr (Or.inr (List.mem_append.mpr (Or.inr (List.mem_append.mpr (Or.inl h)))))))))))
theorem ov_ch5 {w : Cond} (h : w ∈ tables_1_6) : w ∈ lw_tbl := by
  show w ∈ k2_sels lw_privs ++ (tables_1_1 ++ (tables_1_2 ++ (tables_1_3 ++ (tables_1_4 ++ (tables_1_5 ++ (tables_1_6 ++ (tables_1_7 ++ (tables_1_8 ++ (tables_1_9)))))))))
  exact List.mem_append.mpr (Or.inr (List.mem_append.mpr (Or.inr (List.mem_append.mpr (Or.inr (List.mem_append.mpr (Or.inr (List.mem_append.mpr (Or.inr (List.mem_append.mpr (Or.inr (List.mem_append.mpr (Or.inl h)))))))))))))
theorem ov_ch6 {w : Cond} (h : w ∈ tables_1_7) : w ∈ lw_tbl := by
  show w ∈ k2_sels lw_privs ++ (tables_1_1 ++ (tables_1_2 ++ (tables_1_3 ++ (tables_1_4 ++ (tables_1_5 ++ (tables_1_6 ++ (tables_1_7 ++ (tables_1_8 ++ (tables_1_9)))))))))
  exact List.mem_append.mpr (Or.inr (List.mem_append.mpr (Or.inr (List.mem_append.mpr (Or.inr (List.mem_append.mpr (Or.inr (List.mem_append.mpr (Or.inr (List.mem_append.mpr (Or.inr (List.mem_append.mpr (Or.inr (List.mem_append.mpr (Or.inl h)))))))))))))))
theorem ov_ch7 {w : Cond} (h : w ∈ tables_1_8) : w ∈ lw_tbl := by
  show w ∈ k2_sels lw_privs ++ (tables_1_1 ++ (tables_1_2 ++ (tables_1_3 ++ (tables_1_4 ++ (tables_1_5 ++ (tables_1_6 ++ (tables_1_7 ++ (tables_1_8 ++ (tables_1_9)))))))))
  exact List.mem_append.mpr (Or.inr (List.mem_append.mpr (Or.inr (List.mem_append.mpr (Or.inr (List.mem_append.mpr (Or.inr (List.mem_append.mpr (Or.inr (List.mem_append.mpr (Or.inr (List.mem_append.mpr (Or.inr (List.mem_append.mpr (Or.inr (List.mem_append.mpr (Or.inl h)))))))))))))))))
theorem ov_ch8 {w : Cond} (h : w ∈ tables_1_9) : w ∈ lw_tbl := by
  show w ∈ k2_sels lw_privs ++ (tables_1_1 ++ (tables_1_2 ++ (tables_1_3 ++ (tables_1_4 ++ (tables_1_5 ++ (tables_1_6 ++ (tables_1_7 ++ (tables_1_8 ++ (tables_1_9)))))))))
  exact List.mem_append.mpr (Or.inr (List.mem_append.mpr (Or.inr (List.mem_append.mpr (Or.inr (List.mem_append.mpr (Or.inr (List.mem_append.mpr (Or.inr (List.mem_append.mpr (Or.inr (List.mem_append.mpr (Or.inr (List.mem_append.mpr (Or.inr (List.mem_append.mpr (Or.inr (h))))))))))))))))))
def ov_m0 : ov_M := (⟨"OverFirst", "<init>", "()V"⟩, prog_1_method_1_code, 1, (Option.none : Option Jvm.ClassFile.FieldType))
def ov_m1 : ov_M := (⟨"java/lang/Object", "<init>", "()V"⟩, object_method_1_code, 1, (Option.none : Option Jvm.ClassFile.FieldType))
def ov_m2 : ov_M := (⟨"OverFirst$Tape", "<init>", "()V"⟩, prog_8_method_1_code, 1, (Option.none : Option Jvm.ClassFile.FieldType))
def ov_m3 : ov_M := (⟨"OverFirst$Reader", "<init>", "(LOverFirst$Tape;)V"⟩, prog_6_method_1_code, 2, (Option.none : Option Jvm.ClassFile.FieldType))
def ov_m4 : ov_M := (⟨"OverFirst$State", "<init>", "()V"⟩, prog_7_method_1_code, 1, (Option.none : Option Jvm.ClassFile.FieldType))
def ov_m5 : ov_M := (⟨"OverFirst$History", "<init>", "()V"⟩, prog_3_method_1_code, 1, (Option.none : Option Jvm.ClassFile.FieldType))
def ov_m6 : ov_M := (⟨"OverFirst$Goers", "<init>", "()V"⟩, prog_2_method_1_code, 1, (Option.none : Option Jvm.ClassFile.FieldType))
def ov_m7 : ov_M := (⟨"OverFirst$Memo", "<init>", "()V"⟩, prog_4_method_1_code, 1, (Option.none : Option Jvm.ClassFile.FieldType))
def ov_m8 : ov_M := (⟨"OverFirst$Ways", "<init>", "()V"⟩, prog_12_method_1_code, 1, (Option.none : Option Jvm.ClassFile.FieldType))
def ov_m9 : ov_M := (⟨"OverFirst$Pace", "<init>", "()V"⟩, prog_5_method_1_code, 1, (Option.none : Option Jvm.ClassFile.FieldType))
def ov_m10 : ov_M := (⟨"OverFirst$Wave", "<init>", "()V"⟩, prog_11_method_1_code, 1, (Option.none : Option Jvm.ClassFile.FieldType))
def ov_m11 : ov_M := (⟨"OverFirst$Town", "<init>", "()V"⟩, prog_9_method_1_code, 1, (Option.none : Option Jvm.ClassFile.FieldType))
def ov_m12 : ov_M := (⟨"OverFirst$Walk", "<init>", "()V"⟩, prog_10_method_1_code, 1, (Option.none : Option Jvm.ClassFile.FieldType))
def ov_m13 : ov_M := (⟨"OverFirst$Town", "clear", "()V"⟩, prog_9_method_2_code, 1, (Option.none : Option Jvm.ClassFile.FieldType))
def ov_m14 : ov_M := (⟨"java/util/Arrays", "fill", "([II)V"⟩, prog_22_method_103_code, 4, (Option.none : Option Jvm.ClassFile.FieldType))
def ov_m15 : ov_M := (⟨"OverFirst$Town", "complete", "()V"⟩, prog_9_method_3_code, 2, (Option.none : Option Jvm.ClassFile.FieldType))
def ov_m16 : ov_M := (⟨"OverFirst$Town", "setUnlessTold", "(II)V"⟩, prog_9_method_4_code, 3, (Option.none : Option Jvm.ClassFile.FieldType))
def ov_m17 : ov_M := (⟨"OverFirst$Town", "opens", "(II)Z"⟩, prog_9_method_5_code, 3, (Option.some Jvm.ClassFile.FieldType.boolean))
def ov_m18 : ov_M := (⟨"OverFirst$Town", "isBeyond", "(II)Z"⟩, prog_9_method_11_code, 3, (Option.some Jvm.ClassFile.FieldType.boolean))
def ov_m19 : ov_M := (⟨"OverFirst$Town", "isBarred", "(II)Z"⟩, prog_9_method_12_code, 3, (Option.some Jvm.ClassFile.FieldType.boolean))
def ov_m20 : ov_M := (⟨"OverFirst$Town", "isTimed", "(I)Z"⟩, prog_9_method_13_code, 2, (Option.some Jvm.ClassFile.FieldType.boolean))
def ov_m21 : ov_M := (⟨"OverFirst", "feed", "(JJJ)I"⟩, prog_1_method_2_code, 7, (Option.some Jvm.ClassFile.FieldType.int))
def ov_m22 : ov_M := (⟨"OverFirst$Tape", "append", "(J)V"⟩, prog_8_method_2_code, 5, (Option.none : Option Jvm.ClassFile.FieldType))
def ov_m23 : ov_M := (⟨"OverFirst", "town", "()I"⟩, prog_1_method_3_code, 3, (Option.some Jvm.ClassFile.FieldType.int))
def ov_m24 : ov_M := (⟨"OverFirst$Reader", "readTown", "(LOverFirst$Town;)I"⟩, prog_6_method_2_code, 4, (Option.some Jvm.ClassFile.FieldType.int))
def ov_m25 : ov_M := (⟨"OverFirst$Tape", "begin", "()V"⟩, prog_8_method_4_code, 1, (Option.none : Option Jvm.ClassFile.FieldType))
def ov_m26 : ov_M := (⟨"OverFirst$Tape", "advance", "()V"⟩, prog_8_method_5_code, 1, (Option.none : Option Jvm.ClassFile.FieldType))
def ov_m27 : ov_M := (⟨"java/lang/String", "indexOf", "(I)I"⟩, prog_18_method_79_code, 2, (Option.some Jvm.ClassFile.FieldType.int))
def ov_m28 : ov_M := (⟨"java/lang/String", "indexOf", "(II)I"⟩, prog_18_method_80_code, 3, (Option.some Jvm.ClassFile.FieldType.int))
def ov_m29 : ov_M := (⟨"java/lang/String", "isLatin1", "()Z"⟩, prog_18_method_154_code, 1, (Option.some Jvm.ClassFile.FieldType.boolean))
def ov_m30 : ov_M := (⟨"java/lang/String", "length", "()I"⟩, prog_18_method_54_code, 1, (Option.some Jvm.ClassFile.FieldType.int))
def ov_m31 : ov_M := (⟨"java/lang/String", "coder", "()B"⟩, prog_18_method_152_code, 1, (Option.some Jvm.ClassFile.FieldType.byte))
def ov_m32 : ov_M := (⟨"java/lang/StringLatin1", "indexOf", "([BIII)I"⟩, prog_19_method_22_code, 4, (Option.some Jvm.ClassFile.FieldType.int))
def ov_m33 : ov_M := (⟨"java/lang/StringLatin1", "canEncode", "(I)Z"⟩, prog_19_method_4_code, 1, (Option.some Jvm.ClassFile.FieldType.boolean))
def ov_m34 : ov_M := (⟨"java/lang/Math", "max", "(II)I"⟩, prog_17_method_65_code, 2, (Option.some Jvm.ClassFile.FieldType.int))
def ov_m35 : ov_M := (⟨"java/lang/Math", "min", "(II)I"⟩, prog_17_method_69_code, 2, (Option.some Jvm.ClassFile.FieldType.int))
def ov_m36 : ov_M := (⟨"java/lang/StringLatin1", "indexOfChar", "([BIII)I"⟩, prog_19_method_23_code, 6, (Option.some Jvm.ClassFile.FieldType.int))
def ov_m37 : ov_M := (⟨"java/lang/StringUTF16", "indexOf", "([BIII)I"⟩, prog_20_method_40_code, 4, (Option.some Jvm.ClassFile.FieldType.int))
def ov_m38 : ov_M := (⟨"java/lang/StringUTF16", "indexOfChar", "([BIII)I"⟩, prog_20_method_47_code, 4, (Option.some Jvm.ClassFile.FieldType.int))
def ov_m39 : ov_M := (⟨"java/lang/StringUTF16", "checkBoundsBeginEnd", "(II[B)V"⟩, prog_20_method_93_code, 3, (Option.none : Option Jvm.ClassFile.FieldType))
def ov_m40 : ov_M := (⟨"java/lang/StringUTF16", "length", "([B)I"⟩, prog_20_method_6_code, 1, (Option.some Jvm.ClassFile.FieldType.int))
def ov_m41 : ov_M := (⟨"java/lang/String", "checkBoundsBeginEnd", "(III)V"⟩, prog_18_method_158_code, 3, (Option.none : Option Jvm.ClassFile.FieldType))
def ov_m42 : ov_M := (⟨"jdk/internal/util/Preconditions", "checkFromToIndex", "(IIILjava/util/function/BiFunction;)I"⟩, prog_23_method_12_code, 4, (Option.some Jvm.ClassFile.FieldType.int))
def ov_m43 : ov_M := (⟨"java/lang/StringUTF16", "indexOfCharUnsafe", "([BIII)I"⟩, prog_20_method_48_code, 5, (Option.some Jvm.ClassFile.FieldType.int))
def ov_m44 : ov_M := (⟨"java/lang/StringUTF16", "getChar", "([BI)C"⟩, prog_20_method_5_code, 2, (Option.some Jvm.ClassFile.FieldType.char))
def ov_m45 : ov_M := (⟨"java/lang/StringUTF16", "indexOfSupplementary", "([BIII)I"⟩, prog_20_method_49_code, 7, (Option.some Jvm.ClassFile.FieldType.int))
def ov_m46 : ov_M := (⟨"java/lang/Character", "isValidCodePoint", "(I)Z"⟩, prog_15_method_11_code, 2, (Option.some Jvm.ClassFile.FieldType.boolean))
def ov_m47 : ov_M := (⟨"java/lang/Character", "highSurrogate", "(I)C"⟩, prog_15_method_28_code, 1, (Option.some Jvm.ClassFile.FieldType.char))
def ov_m48 : ov_M := (⟨"java/lang/Character", "lowSurrogate", "(I)C"⟩, prog_15_method_29_code, 1, (Option.some Jvm.ClassFile.FieldType.char))
def ov_m49 : ov_M := (⟨"OverFirst$Reader", "readSize", "()Z"⟩, prog_6_method_5_code, 1, (Option.some Jvm.ClassFile.FieldType.boolean))
def ov_m50 : ov_M := (⟨"OverFirst$Reader", "takeWord", "(J)Z"⟩, prog_6_method_23_code, 3, (Option.some Jvm.ClassFile.FieldType.boolean))
def ov_m51 : ov_M := (⟨"OverFirst$Tape", "isWord", "(J)Z"⟩, prog_8_method_6_code, 3, (Option.some Jvm.ClassFile.FieldType.boolean))
def ov_m52 : ov_M := (⟨"OverFirst$Reader", "fail", "(I)Z"⟩, prog_6_method_27_code, 2, (Option.some Jvm.ClassFile.FieldType.boolean))
def ov_m53 : ov_M := (⟨"OverFirst$Reader", "takeNumber", "(II)Z"⟩, prog_6_method_25_code, 3, (Option.some Jvm.ClassFile.FieldType.boolean))
def ov_m54 : ov_M := (⟨"OverFirst$Reader", "isNumber", "(II)Z"⟩, prog_6_method_26_code, 3, (Option.some Jvm.ClassFile.FieldType.boolean))
def ov_m55 : ov_M := (⟨"OverFirst$Reader", "takeSign", "(C)Z"⟩, prog_6_method_24_code, 2, (Option.some Jvm.ClassFile.FieldType.boolean))
def ov_m56 : ov_M := (⟨"OverFirst$Tape", "isSign", "(C)Z"⟩, prog_8_method_7_code, 2, (Option.some Jvm.ClassFile.FieldType.boolean))
def ov_m57 : ov_M := (⟨"OverFirst$Reader", "readLine", "()Z"⟩, prog_6_method_6_code, 1, (Option.some Jvm.ClassFile.FieldType.boolean))
def ov_m58 : ov_M := (⟨"OverFirst$Reader", "readLight", "()Z"⟩, prog_6_method_7_code, 3, (Option.some Jvm.ClassFile.FieldType.boolean))
def ov_m59 : ov_M := (⟨"OverFirst$Reader", "kindTold", "()I"⟩, prog_6_method_21_code, 1, (Option.some Jvm.ClassFile.FieldType.int))
def ov_m60 : ov_M := (⟨"OverFirst$Reader", "readRound", "(I)Z"⟩, prog_6_method_8_code, 3, (Option.some Jvm.ClassFile.FieldType.boolean))
def ov_m61 : ov_M := (⟨"OverFirst", "commonMultiple", "(II)I"⟩, prog_1_method_42_code, 4, (Option.some Jvm.ClassFile.FieldType.int))
def ov_m62 : ov_M := (⟨"OverFirst", "commonDivisor", "(JJ)J"⟩, prog_1_method_43_code, 11, (Option.some Jvm.ClassFile.FieldType.long))
def ov_m63 : ov_M := (⟨"OverFirst$Reader", "readGreen", "(I)Z"⟩, prog_6_method_9_code, 2, (Option.some Jvm.ClassFile.FieldType.boolean))
def ov_m64 : ov_M := (⟨"OverFirst$Reader", "readBar", "()Z"⟩, prog_6_method_10_code, 3, (Option.some Jvm.ClassFile.FieldType.boolean))
def ov_m65 : ov_M := (⟨"OverFirst$Reader", "wayTold", "()I"⟩, prog_6_method_20_code, 1, (Option.some Jvm.ClassFile.FieldType.int))
def ov_m66 : ov_M := (⟨"OverFirst$Reader", "readRule", "()Z"⟩, prog_6_method_13_code, 3, (Option.some Jvm.ClassFile.FieldType.boolean))
def ov_m67 : ov_M := (⟨"OverFirst$Reader", "isReserved", "(J)Z"⟩, prog_6_method_22_code, 7, (Option.some Jvm.ClassFile.FieldType.boolean))
def ov_m68 : ov_M := (⟨"OverFirst$Town", "hasRule", "(J)Z"⟩, prog_9_method_17_code, 4, (Option.some Jvm.ClassFile.FieldType.boolean))
def ov_m69 : ov_M := (⟨"OverFirst$Reader", "readExpression", "(I)Z"⟩, prog_6_method_14_code, 5, (Option.some Jvm.ClassFile.FieldType.boolean))
def ov_m70 : ov_M := (⟨"OverFirst$Reader", "readTest", "(I)Z"⟩, prog_6_method_15_code, 4, (Option.some Jvm.ClassFile.FieldType.boolean))
def ov_m71 : ov_M := (⟨"OverFirst$Reader", "readSum", "(I)Z"⟩, prog_6_method_16_code, 5, (Option.some Jvm.ClassFile.FieldType.boolean))
def ov_m72 : ov_M := (⟨"OverFirst$Reader", "readProduct", "(I)Z"⟩, prog_6_method_17_code, 4, (Option.some Jvm.ClassFile.FieldType.boolean))
def ov_m73 : ov_M := (⟨"OverFirst$Reader", "readPart", "(I)Z"⟩, prog_6_method_18_code, 6, (Option.some Jvm.ClassFile.FieldType.boolean))
def ov_m74 : ov_M := (⟨"OverFirst$Reader", "plainPart", "()I"⟩, prog_6_method_19_code, 2, (Option.some Jvm.ClassFile.FieldType.int))
def ov_m75 : ov_M := (⟨"OverFirst$Town", "addCode", "(I)V"⟩, prog_9_method_18_code, 2, (Option.none : Option Jvm.ClassFile.FieldType))
def ov_m76 : ov_M := (⟨"OverFirst$Town", "addRule", "(J)V"⟩, prog_9_method_19_code, 3, (Option.none : Option Jvm.ClassFile.FieldType))
def ov_m77 : ov_M := (⟨"OverFirst$Reader", "readSetting", "(III)Z"⟩, prog_6_method_11_code, 4, (Option.some Jvm.ClassFile.FieldType.boolean))
def ov_m78 : ov_M := (⟨"OverFirst$Reader", "readChild", "()Z"⟩, prog_6_method_12_code, 1, (Option.some Jvm.ClassFile.FieldType.boolean))
def ov_m79 : ov_M := (⟨"OverFirst$Tape", "clear", "()V"⟩, prog_8_method_3_code, 1, (Option.none : Option Jvm.ClassFile.FieldType))
def ov_m80 : ov_M := (⟨"OverFirst$Walk", "clear", "()V"⟩, prog_10_method_2_code, 1, (Option.none : Option Jvm.ClassFile.FieldType))
def ov_m81 : ov_M := (⟨"OverFirst$State", "clear", "()V"⟩, prog_7_method_2_code, 1, (Option.none : Option Jvm.ClassFile.FieldType))
def ov_m82 : ov_M := (⟨"OverFirst$History", "clear", "()V"⟩, prog_3_method_2_code, 1, (Option.none : Option Jvm.ClassFile.FieldType))
def ov_m83 : ov_M := (⟨"OverFirst", "forgetMarks", "()V"⟩, prog_1_method_5_code, 2, (Option.none : Option Jvm.ClassFile.FieldType))
def ov_m84 : ov_M := (⟨"OverFirst", "forgetReckonings", "()V"⟩, prog_1_method_6_code, 1, (Option.none : Option Jvm.ClassFile.FieldType))
def ov_m85 : ov_M := (⟨"OverFirst$Goers", "forget", "()V"⟩, prog_2_method_2_code, 1, (Option.none : Option Jvm.ClassFile.FieldType))
def ov_m86 : ov_M := (⟨"OverFirst$Pace", "forget", "()V"⟩, prog_5_method_2_code, 1, (Option.none : Option Jvm.ClassFile.FieldType))
def ov_m87 : ov_M := (⟨"OverFirst$Wave", "forget", "()V"⟩, prog_11_method_2_code, 1, (Option.none : Option Jvm.ClassFile.FieldType))
def ov_m88 : ov_M := (⟨"OverFirst", "walk", "()I"⟩, prog_1_method_4_code, 3, (Option.some Jvm.ClassFile.FieldType.int))
def ov_m89 : ov_M := (⟨"OverFirst$Reader", "readWalk", "(LOverFirst$Town;LOverFirst$Walk;)I"⟩, prog_6_method_3_code, 5, (Option.some Jvm.ClassFile.FieldType.int))
def ov_m90 : ov_M := (⟨"OverFirst$Reader", "readStep", "(LOverFirst$Walk;)Z"⟩, prog_6_method_4_code, 4, (Option.some Jvm.ClassFile.FieldType.boolean))
def ov_m91 : ov_M := (⟨"OverFirst$Town", "after", "(II)I"⟩, prog_9_method_8_code, 3, (Option.some Jvm.ClassFile.FieldType.int))
def ov_m92 : ov_M := (⟨"OverFirst$Walk", "add", "(IIII)V"⟩, prog_10_method_3_code, 5, (Option.none : Option Jvm.ClassFile.FieldType))
def ov_m93 : ov_M := (⟨"OverFirst", "light", "(III)I"⟩, prog_1_method_7_code, 5, (Option.some Jvm.ClassFile.FieldType.int))
def ov_m94 : ov_M := (⟨"OverFirst$Town", "corner", "(II)I"⟩, prog_9_method_6_code, 3, (Option.some Jvm.ClassFile.FieldType.int))
def ov_m95 : ov_M := (⟨"OverFirst$State", "knows", "(I)Z"⟩, prog_7_method_4_code, 2, (Option.some Jvm.ClassFile.FieldType.boolean))
def ov_m96 : ov_M := (⟨"OverFirst", "green", "(IIII)I"⟩, prog_1_method_8_code, 6, (Option.some Jvm.ClassFile.FieldType.int))
def ov_m97 : ov_M := (⟨"OverFirst", "isSecond", "(I)Z"⟩, prog_1_method_39_code, 1, (Option.some Jvm.ClassFile.FieldType.boolean))
def ov_m98 : ov_M := (⟨"OverFirst$Town", "isOpen", "(II)Z"⟩, prog_9_method_14_code, 3, (Option.some Jvm.ClassFile.FieldType.boolean))
def ov_m99 : ov_M := (⟨"OverFirst$Town", "waitFor", "(III)I"⟩, prog_9_method_15_code, 5, (Option.some Jvm.ClassFile.FieldType.int))
def ov_m100 : ov_M := (⟨"java/lang/Math", "floorMod", "(II)I"⟩, prog_17_method_50_code, 3, (Option.some Jvm.ClassFile.FieldType.int))
def ov_m101 : ov_M := (⟨"OverFirst", "until", "(IIII)I"⟩, prog_1_method_9_code, 6, (Option.some Jvm.ClassFile.FieldType.int))
def ov_m102 : ov_M := (⟨"OverFirst", "go", "(IZ)I"⟩, prog_1_method_10_code, 4, (Option.some Jvm.ClassFile.FieldType.int))
def ov_m103 : ov_M := (⟨"OverFirst", "runsLeft", "()I"⟩, prog_1_method_11_code, 1, (Option.some Jvm.ClassFile.FieldType.int))
def ov_m104 : ov_M := (⟨"OverFirst$History", "keep", "(LOverFirst$State;)V"⟩, prog_3_method_3_code, 2, (Option.none : Option Jvm.ClassFile.FieldType))
def ov_m105 : ov_M := (⟨"OverFirst", "stay", "(I)I"⟩, prog_1_method_12_code, 2, (Option.some Jvm.ClassFile.FieldType.int))
def ov_m106 : ov_M := (⟨"OverFirst", "look", "()Z"⟩, prog_1_method_13_code, 1, (Option.some Jvm.ClassFile.FieldType.boolean))
def ov_m107 : ov_M := (⟨"OverFirst", "undo", "()Z"⟩, prog_1_method_14_code, 1, (Option.some Jvm.ClassFile.FieldType.boolean))
def ov_m108 : ov_M := (⟨"OverFirst$History", "giveBack", "(LOverFirst$State;)Z"⟩, prog_3_method_4_code, 2, (Option.some Jvm.ClassFile.FieldType.boolean))
def ov_m109 : ov_M := (⟨"OverFirst", "judged", "()I"⟩, prog_1_method_15_code, 1, (Option.some Jvm.ClassFile.FieldType.int))
def ov_m110 : ov_M := (⟨"OverFirst$Walk", "firstWrong", "(LOverFirst$Town;)I"⟩, prog_10_method_4_code, 5, (Option.some Jvm.ClassFile.FieldType.int))
def ov_m111 : ov_M := (⟨"OverFirst$Walk", "isGreenFor", "(LOverFirst$Town;II)Z"⟩, prog_10_method_5_code, 5, (Option.some Jvm.ClassFile.FieldType.boolean))
def ov_m112 : ov_M := (⟨"OverFirst", "soonest", "(IIII)I"⟩, prog_1_method_16_code, 7, (Option.some Jvm.ClassFile.FieldType.int))
def ov_m113 : ov_M := (⟨"OverFirst$Ways", "soonestWay", "(LOverFirst$Town;III)I"⟩, prog_12_method_5_code, 10, (Option.some Jvm.ClassFile.FieldType.int))
def ov_m114 : ov_M := (⟨"OverFirst$Ways", "arrival", "(LOverFirst$Town;II)I"⟩, prog_12_method_2_code, 6, (Option.some Jvm.ClassFile.FieldType.int))
def ov_m115 : ov_M := (⟨"OverFirst$Town", "home", "()I"⟩, prog_9_method_7_code, 1, (Option.some Jvm.ClassFile.FieldType.int))
def ov_m116 : ov_M := (⟨"OverFirst$Ways", "pass", "(II)V"⟩, prog_12_method_3_code, 4, (Option.none : Option Jvm.ClassFile.FieldType))
def ov_m117 : ov_M := (⟨"OverFirst$Ways", "afterStreet", "(III)I"⟩, prog_12_method_4_code, 4, (Option.some Jvm.ClassFile.FieldType.int))
def ov_m118 : ov_M := (⟨"OverFirst", "lesser", "(II)I"⟩, prog_1_method_40_code, 2, (Option.some Jvm.ClassFile.FieldType.int))
def ov_m119 : ov_M := (⟨"OverFirst$Ways", "isAsSoonOver", "(III)Z"⟩, prog_12_method_6_code, 4, (Option.some Jvm.ClassFile.FieldType.boolean))
def ov_m120 : ov_M := (⟨"OverFirst", "mean", "(IIII)I"⟩, prog_1_method_17_code, 5, (Option.some Jvm.ClassFile.FieldType.int))
def ov_m121 : ov_M := (⟨"OverFirst", "reckoned", "(IIIZ)I"⟩, prog_1_method_19_code, 5, (Option.some Jvm.ClassFile.FieldType.int))
def ov_m122 : ov_M := (⟨"OverFirst", "isGoer", "(I)Z"⟩, prog_1_method_38_code, 2, (Option.some Jvm.ClassFile.FieldType.boolean))
def ov_m123 : ov_M := (⟨"OverFirst$Goers", "ask", "(LOverFirst$Town;JIZ)V"⟩, prog_2_method_3_code, 6, (Option.none : Option Jvm.ClassFile.FieldType))
def ov_m124 : ov_M := (⟨"OverFirst$Memo", "clear", "(I)V"⟩, prog_4_method_2_code, 2, (Option.none : Option Jvm.ClassFile.FieldType))
def ov_m125 : ov_M := (⟨"OverFirst$Goers", "findPeriods", "()V"⟩, prog_2_method_4_code, 4, (Option.none : Option Jvm.ClassFile.FieldType))
def ov_m126 : ov_M := (⟨"OverFirst$Goers", "hides", "(I)Z"⟩, prog_2_method_5_code, 2, (Option.some Jvm.ClassFile.FieldType.boolean))
def ov_m127 : ov_M := (⟨"OverFirst$Goers", "valueAt", "(II)I"⟩, prog_2_method_6_code, 8, (Option.some Jvm.ClassFile.FieldType.int))
def ov_m128 : ov_M := (⟨"OverFirst$Memo", "holds", "(II)Z"⟩, prog_4_method_4_code, 3, (Option.some Jvm.ClassFile.FieldType.boolean))
def ov_m129 : ov_M := (⟨"OverFirst$Memo", "number", "(I)I"⟩, prog_4_method_5_code, 2, (Option.some Jvm.ClassFile.FieldType.int))
def ov_m130 : ov_M := (⟨"OverFirst$Goers", "bestOverRound", "(II)I"⟩, prog_2_method_8_code, 7, (Option.some Jvm.ClassFile.FieldType.int))
def ov_m131 : ov_M := (⟨"OverFirst$Goers", "valueBy", "(IIII)I"⟩, prog_2_method_12_code, 7, (Option.some Jvm.ClassFile.FieldType.int))
def ov_m132 : ov_M := (⟨"OverFirst$Goers", "bestWhile", "(IIIII)I"⟩, prog_2_method_9_code, 10, (Option.some Jvm.ClassFile.FieldType.int))
def ov_m133 : ov_M := (⟨"OverFirst$Goers", "leastFrom", "(I)I"⟩, prog_2_method_10_code, 2, (Option.some Jvm.ClassFile.FieldType.int))
def ov_m134 : ov_M := (⟨"OverFirst$Town", "streetsHome", "(I)I"⟩, prog_9_method_9_code, 2, (Option.some Jvm.ClassFile.FieldType.int))
def ov_m135 : ov_M := (⟨"OverFirst$Goers", "valueOverRound", "(II)I"⟩, prog_2_method_7_code, 11, (Option.some Jvm.ClassFile.FieldType.int))
def ov_m136 : ov_M := (⟨"OverFirst$Goers", "valueSeen", "(IIII)I"⟩, prog_2_method_11_code, 7, (Option.some Jvm.ClassFile.FieldType.int))
def ov_m137 : ov_M := (⟨"OverFirst$Goers", "plainWay", "(III)I"⟩, prog_2_method_14_code, 6, (Option.some Jvm.ClassFile.FieldType.int))
def ov_m138 : ov_M := (⟨"OverFirst$Town", "ruleSaysOver", "(IIII)Z"⟩, prog_9_method_20_code, 8, (Option.some Jvm.ClassFile.FieldType.boolean))
def ov_m139 : ov_M := (⟨"OverFirst$Town", "placeOrNumber", "(II)I"⟩, prog_9_method_21_code, 3, (Option.some Jvm.ClassFile.FieldType.int))
def ov_m140 : ov_M := (⟨"OverFirst$Town", "joined", "(III)I"⟩, prog_9_method_22_code, 3, (Option.some Jvm.ClassFile.FieldType.int))
def ov_m141 : ov_M := (⟨"OverFirst$Memo", "put", "(III)V"⟩, prog_4_method_6_code, 4, (Option.none : Option Jvm.ClassFile.FieldType))
def ov_m142 : ov_M := (⟨"OverFirst", "worst", "(IIII)I"⟩, prog_1_method_18_code, 5, (Option.some Jvm.ClassFile.FieldType.int))
def ov_m143 : ov_M := (⟨"OverFirst", "choice", "(IIII)I"⟩, prog_1_method_20_code, 7, (Option.some Jvm.ClassFile.FieldType.int))
def ov_m144 : ov_M := (⟨"OverFirst$Goers", "wayOf", "(III)I"⟩, prog_2_method_13_code, 8, (Option.some Jvm.ClassFile.FieldType.int))
def ov_m145 : ov_M := (⟨"OverFirst", "gap", "(III)I"⟩, prog_1_method_21_code, 6, (Option.some Jvm.ClassFile.FieldType.int))
def ov_m146 : ov_M := (⟨"OverFirst", "watch", "(III)I"⟩, prog_1_method_22_code, 5, (Option.some Jvm.ClassFile.FieldType.int))
def ov_m147 : ov_M := (⟨"OverFirst$Goers", "worthOfWatching", "(II)I"⟩, prog_2_method_15_code, 10, (Option.some Jvm.ClassFile.FieldType.int))
def ov_m148 : ov_M := (⟨"OverFirst$Memo", "clearBefore", "(I)V"⟩, prog_4_method_3_code, 3, (Option.none : Option Jvm.ClassFile.FieldType))
def ov_m149 : ov_M := (⟨"OverFirst", "latest", "(III)I"⟩, prog_1_method_23_code, 5, (Option.some Jvm.ClassFile.FieldType.int))
def ov_m150 : ov_M := (⟨"OverFirst$Ways", "lastAsSoon", "(LOverFirst$Town;II)I"⟩, prog_12_method_7_code, 9, (Option.some Jvm.ClassFile.FieldType.int))
def ov_m151 : ov_M := (⟨"OverFirst", "turning", "(II)I"⟩, prog_1_method_24_code, 3, (Option.some Jvm.ClassFile.FieldType.int))
def ov_m152 : ov_M := (⟨"OverFirst$Ways", "arrivalTurning", "(LOverFirst$Town;II)I"⟩, prog_12_method_8_code, 7, (Option.some Jvm.ClassFile.FieldType.int))
def ov_m153 : ov_M := (⟨"OverFirst$Ways", "passTurning", "(IIII)V"⟩, prog_12_method_10_code, 6, (Option.none : Option Jvm.ClassFile.FieldType))
def ov_m154 : ov_M := (⟨"OverFirst$Ways", "turnedCell", "(III)I"⟩, prog_12_method_11_code, 3, (Option.some Jvm.ClassFile.FieldType.int))
def ov_m155 : ov_M := (⟨"OverFirst$Ways", "goOnTurning", "(III)V"⟩, prog_12_method_9_code, 6, (Option.none : Option Jvm.ClassFile.FieldType))
def ov_m156 : ov_M := (⟨"OverFirst", "worthiest", "(I)I"⟩, prog_1_method_25_code, 3, (Option.some Jvm.ClassFile.FieldType.int))
def ov_m157 : ov_M := (⟨"OverFirst$Goers", "mostWorthWatching", "(I)I"⟩, prog_2_method_16_code, 6, (Option.some Jvm.ClassFile.FieldType.int))
def ov_m158 : ov_M := (⟨"OverFirst", "odds", "(III)I"⟩, prog_1_method_26_code, 4, (Option.some Jvm.ClassFile.FieldType.int))
def ov_m159 : ov_M := (⟨"OverFirst$Goers", "chanceOf", "(II)I"⟩, prog_2_method_17_code, 3, (Option.some Jvm.ClassFile.FieldType.int))
def ov_m160 : ov_M := (⟨"OverFirst$Town", "longestWay", "()I"⟩, prog_9_method_10_code, 3, (Option.some Jvm.ClassFile.FieldType.int))
def ov_m161 : ov_M := (⟨"OverFirst$Goers", "chanceAt", "(II)I"⟩, prog_2_method_18_code, 5, (Option.some Jvm.ClassFile.FieldType.int))
def ov_m162 : ov_M := (⟨"OverFirst$Goers", "chanceOverRound", "(II)I"⟩, prog_2_method_19_code, 6, (Option.some Jvm.ClassFile.FieldType.int))
def ov_m163 : ov_M := (⟨"OverFirst$Goers", "chanceSeen", "(III)I"⟩, prog_2_method_20_code, 6, (Option.some Jvm.ClassFile.FieldType.int))
def ov_m164 : ov_M := (⟨"OverFirst", "pace", "(II)I"⟩, prog_1_method_27_code, 3, (Option.some Jvm.ClassFile.FieldType.int))
def ov_m165 : ov_M := (⟨"OverFirst$Pace", "solve", "(LOverFirst$Town;LOverFirst$Walk;I)Z"⟩, prog_5_method_3_code, 5, (Option.some Jvm.ClassFile.FieldType.boolean))
def ov_m166 : ov_M := (⟨"OverFirst", "modulo", "(II)I"⟩, prog_1_method_41_code, 2, (Option.some Jvm.ClassFile.FieldType.int))
def ov_m167 : ov_M := (⟨"OverFirst$Pace", "costFrom", "(III)I"⟩, prog_5_method_6_code, 9, (Option.some Jvm.ClassFile.FieldType.int))
def ov_m168 : ov_M := (⟨"OverFirst$Pace", "longest", "()I"⟩, prog_5_method_5_code, 1, (Option.some Jvm.ClassFile.FieldType.int))
def ov_m169 : ov_M := (⟨"OverFirst$Pace", "shortest", "()I"⟩, prog_5_method_4_code, 1, (Option.some Jvm.ClassFile.FieldType.int))
def ov_m170 : ov_M := (⟨"OverFirst$Pace", "costBy", "(IIII)I"⟩, prog_5_method_7_code, 8, (Option.some Jvm.ClassFile.FieldType.int))
def ov_m171 : ov_M := (⟨"OverFirst$Pace", "layStreets", "(I)V"⟩, prog_5_method_8_code, 9, (Option.none : Option Jvm.ClassFile.FieldType))
def ov_m172 : ov_M := (⟨"OverFirst", "tried", "(IIZI)Z"⟩, prog_1_method_28_code, 6, (Option.some Jvm.ClassFile.FieldType.boolean))
def ov_m173 : ov_M := (⟨"OverFirst$State", "addTry", "(IZI)Z"⟩, prog_7_method_5_code, 4, (Option.some Jvm.ClassFile.FieldType.boolean))
def ov_m174 : ov_M := (⟨"OverFirst", "does", "(III)J"⟩, prog_1_method_29_code, 5, (Option.some Jvm.ClassFile.FieldType.long))
def ov_m175 : ov_M := (⟨"OverFirst$State", "likelihood", "(IIII)J"⟩, prog_7_method_7_code, 11, (Option.some Jvm.ClassFile.FieldType.long))
def ov_m176 : ov_M := (⟨"OverFirst", "wave", "(IIIZI)I"⟩, prog_1_method_30_code, 7, (Option.some Jvm.ClassFile.FieldType.int))
def ov_m177 : ov_M := (⟨"OverFirst$Town", "shareRound", "(II)Z"⟩, prog_9_method_16_code, 5, (Option.some Jvm.ClassFile.FieldType.boolean))
def ov_m178 : ov_M := (⟨"OverFirst$Wave", "solve", "(LOverFirst$Town;IIZ)V"⟩, prog_11_method_3_code, 7, (Option.none : Option Jvm.ClassFile.FieldType))
def ov_m179 : ov_M := (⟨"OverFirst$Wave", "there", "(II)J"⟩, prog_11_method_5_code, 3, (Option.some Jvm.ClassFile.FieldType.long))
def ov_m180 : ov_M := (⟨"OverFirst$Wave", "turn", "(JI)J"⟩, prog_11_method_7_code, 5, (Option.some Jvm.ClassFile.FieldType.long))
def ov_m181 : ov_M := (⟨"OverFirst$Wave", "back", "(II)J"⟩, prog_11_method_6_code, 3, (Option.some Jvm.ClassFile.FieldType.long))
def ov_m182 : ov_M := (⟨"OverFirst$Wave", "search", "(IJJ)V"⟩, prog_11_method_4_code, 8, (Option.none : Option Jvm.ClassFile.FieldType))
def ov_m183 : ov_M := (⟨"java/lang/Long", "bitCount", "(J)I"⟩, prog_16_method_50_code, 2, (Option.some Jvm.ClassFile.FieldType.int))
def ov_m184 : ov_M := (⟨"OverFirst", "rules", "()I"⟩, prog_1_method_31_code, 5, (Option.some Jvm.ClassFile.FieldType.int))
def ov_m185 : ov_M := (⟨"OverFirst", "was", "(III)Z"⟩, prog_1_method_32_code, 5, (Option.some Jvm.ClassFile.FieldType.boolean))
def ov_m186 : ov_M := (⟨"OverFirst$State", "addSighting", "(II)Z"⟩, prog_7_method_6_code, 3, (Option.some Jvm.ClassFile.FieldType.boolean))
def ov_m187 : ov_M := (⟨"OverFirst", "fits", "(I)J"⟩, prog_1_method_33_code, 2, (Option.some Jvm.ClassFile.FieldType.long))
def ov_m188 : ov_M := (⟨"OverFirst$Ways", "fitSightings", "(LOverFirst$Town;LOverFirst$State;)V"⟩, prog_12_method_12_code, 3, (Option.none : Option Jvm.ClassFile.FieldType))
def ov_m189 : ov_M := (⟨"OverFirst$Ways", "trace", "(IIIJJI)V"⟩, prog_12_method_13_code, 13, (Option.none : Option Jvm.ClassFile.FieldType))
def ov_m190 : ov_M := (⟨"OverFirst$State", "sightingsWithin", "(III)I"⟩, prog_7_method_8_code, 6, (Option.some Jvm.ClassFile.FieldType.int))
def ov_m191 : ov_M := (⟨"OverFirst$Ways", "commonRows", "(II)J"⟩, prog_12_method_14_code, 8, (Option.some Jvm.ClassFile.FieldType.long))
def ov_m192 : ov_M := (⟨"OverFirst", "nights", "(IIII)I"⟩, prog_1_method_34_code, 5, (Option.some Jvm.ClassFile.FieldType.int))
def ov_m193 : ov_M := (⟨"OverFirst$Goers", "spendNights", "(II)V"⟩, prog_2_method_21_code, 7, (Option.none : Option Jvm.ClassFile.FieldType))
def ov_m194 : ov_M := (⟨"OverFirst$Goers", "drawLights", "(J)J"⟩, prog_2_method_22_code, 6, (Option.some Jvm.ClassFile.FieldType.long))
def ov_m195 : ov_M := (⟨"OverFirst$Goers", "walkHome", "()I"⟩, prog_2_method_23_code, 6, (Option.some Jvm.ClassFile.FieldType.int))
def ov_m196 : ov_M := (⟨"OverFirst", "mark", "(IZ)Z"⟩, prog_1_method_35_code, 3, (Option.some Jvm.ClassFile.FieldType.boolean))
def ov_m197 : ov_M := (⟨"OverFirst$State", "copy", "(LOverFirst$State;)V"⟩, prog_7_method_3_code, 2, (Option.none : Option Jvm.ClassFile.FieldType))
def ov_m198 : ov_M := (⟨"OverFirst", "count", "(I)I"⟩, prog_1_method_36_code, 2, (Option.some Jvm.ClassFile.FieldType.int))
def ov_m199 : ov_M := (⟨"OverFirst", "hiddenLeft", "()I"⟩, prog_1_method_37_code, 3, (Option.some Jvm.ClassFile.FieldType.int))
def ov_m200 : ov_M := (⟨"OverFirstModel", "feed", "(JJJ)I"⟩, prog_14_method_2_code, 7, (Option.some Jvm.ClassFile.FieldType.int))
def ov_m201 : ov_M := (⟨"OverFirstModel", "lay", "(J)V"⟩, prog_14_method_3_code, 5, (Option.none : Option Jvm.ClassFile.FieldType))
def ov_m202 : ov_M := (⟨"OverFirstModel", "<init>", "()V"⟩, prog_14_method_4_code, 1, (Option.none : Option Jvm.ClassFile.FieldType))
def ov_m203 : ov_M := (⟨"OverFirstModel", "standsAsAlways", "(I)V"⟩, prog_14_method_18_code, 3, (Option.none : Option Jvm.ClassFile.FieldType))
def ov_m204 : ov_M := (⟨"OverFirstModel", "begins", "()V"⟩, prog_14_method_57_code, 2, (Option.none : Option Jvm.ClassFile.FieldType))
def ov_m205 : ov_M := (⟨"OverFirstModel", "town", "()I"⟩, prog_14_method_23_code, 2, (Option.some Jvm.ClassFile.FieldType.int))
def ov_m206 : ov_M := (⟨"OverFirstModel", "cutAll", "()V"⟩, prog_14_method_9_code, 7, (Option.none : Option Jvm.ClassFile.FieldType))
def ov_m207 : ov_M := (⟨"OverFirstModel", "isLetter", "(I)Z"⟩, prog_14_method_5_code, 1, (Option.some Jvm.ClassFile.FieldType.boolean))
def ov_m208 : ov_M := (⟨"OverFirstModel", "rank", "(I)I"⟩, prog_14_method_7_code, 1, (Option.some Jvm.ClassFile.FieldType.int))
def ov_m209 : ov_M := (⟨"OverFirstModel", "isDigit", "(I)Z"⟩, prog_14_method_6_code, 1, (Option.some Jvm.ClassFile.FieldType.boolean))
def ov_m210 : ov_M := (⟨"OverFirstModel", "isSignOf", "(I)Z"⟩, prog_14_method_8_code, 1, (Option.some Jvm.ClassFile.FieldType.boolean))
def ov_m211 : ov_M := (⟨"OverFirstModel", "takeWord", "(I)V"⟩, prog_14_method_16_code, 2, (Option.none : Option Jvm.ClassFile.FieldType))
def ov_m212 : ov_M := (⟨"OverFirstModel", "hasWord", "(I)Z"⟩, prog_14_method_15_code, 3, (Option.some Jvm.ClassFile.FieldType.boolean))
def ov_m213 : ov_M := (⟨"OverFirstModel", "isWord", "(I)Z"⟩, prog_14_method_12_code, 2, (Option.some Jvm.ClassFile.FieldType.boolean))
def ov_m214 : ov_M := (⟨"OverFirstModel", "wrong", "(I)V"⟩, prog_14_method_10_code, 2, (Option.none : Option Jvm.ClassFile.FieldType))
def ov_m215 : ov_M := (⟨"OverFirstModel", "takeNumber", "(II)I"⟩, prog_14_method_19_code, 3, (Option.some Jvm.ClassFile.FieldType.int))
def ov_m216 : ov_M := (⟨"OverFirstModel", "takeSign", "(I)V"⟩, prog_14_method_13_code, 2, (Option.none : Option Jvm.ClassFile.FieldType))
def ov_m217 : ov_M := (⟨"OverFirstModel", "isSign", "(I)Z"⟩, prog_14_method_11_code, 2, (Option.some Jvm.ClassFile.FieldType.boolean))
def ov_m218 : ov_M := (⟨"OverFirstModel", "readLine", "()V"⟩, prog_14_method_24_code, 1, (Option.none : Option Jvm.ClassFile.FieldType))
def ov_m219 : ov_M := (⟨"OverFirstModel", "readLight", "()V"⟩, prog_14_method_27_code, 7, (Option.none : Option Jvm.ClassFile.FieldType))
def ov_m220 : ov_M := (⟨"OverFirstModel", "wordHere", "(II)I"⟩, prog_14_method_21_code, 5, (Option.some Jvm.ClassFile.FieldType.int))
def ov_m221 : ov_M := (⟨"OverFirstModel", "takeAfter", "(III)I"⟩, prog_14_method_20_code, 4, (Option.some Jvm.ClassFile.FieldType.int))
def ov_m222 : ov_M := (⟨"OverFirstModel", "common", "(II)I"⟩, prog_14_method_26_code, 5, (Option.some Jvm.ClassFile.FieldType.int))
def ov_m223 : ov_M := (⟨"OverFirstModel", "readBar", "()V"⟩, prog_14_method_28_code, 5, (Option.none : Option Jvm.ClassFile.FieldType))
def ov_m224 : ov_M := (⟨"OverFirstModel", "readRule", "()V"⟩, prog_14_method_29_code, 4, (Option.none : Option Jvm.ClassFile.FieldType))
def ov_m225 : ov_M := (⟨"OverFirstModel", "isName", "()Z"⟩, prog_14_method_22_code, 1, (Option.some Jvm.ClassFile.FieldType.boolean))
def ov_m226 : ov_M := (⟨"OverFirstModel", "all", "(I)V"⟩, prog_14_method_32_code, 3, (Option.none : Option Jvm.ClassFile.FieldType))
def ov_m227 : ov_M := (⟨"OverFirstModel", "test", "(I)V"⟩, prog_14_method_33_code, 3, (Option.none : Option Jvm.ClassFile.FieldType))
def ov_m228 : ov_M := (⟨"OverFirstModel", "sums", "(I)V"⟩, prog_14_method_34_code, 3, (Option.none : Option Jvm.ClassFile.FieldType))
def ov_m229 : ov_M := (⟨"OverFirstModel", "products", "(I)V"⟩, prog_14_method_35_code, 2, (Option.none : Option Jvm.ClassFile.FieldType))
def ov_m230 : ov_M := (⟨"OverFirstModel", "takePart", "(I)V"⟩, prog_14_method_36_code, 6, (Option.none : Option Jvm.ClassFile.FieldType))
def ov_m231 : ov_M := (⟨"OverFirstModel", "emit", "(II)V"⟩, prog_14_method_31_code, 3, (Option.none : Option Jvm.ClassFile.FieldType))
def ov_m232 : ov_M := (⟨"OverFirstModel", "hasSign", "(I)Z"⟩, prog_14_method_14_code, 3, (Option.some Jvm.ClassFile.FieldType.boolean))
def ov_m233 : ov_M := (⟨"OverFirstModel", "readOnce", "()V"⟩, prog_14_method_25_code, 2, (Option.none : Option Jvm.ClassFile.FieldType))
def ov_m234 : ov_M := (⟨"OverFirstModel", "walk", "()I"⟩, prog_14_method_30_code, 5, (Option.some Jvm.ClassFile.FieldType.int))
def ov_m235 : ov_M := (⟨"OverFirstModel", "isThere", "(III)Z"⟩, prog_14_method_45_code, 4, (Option.some Jvm.ClassFile.FieldType.boolean))
def ov_m236 : ov_M := (⟨"OverFirstModel", "wide", "()I"⟩, prog_14_method_39_code, 1, (Option.some Jvm.ClassFile.FieldType.int))
def ov_m237 : ov_M := (⟨"OverFirstModel", "deep", "()I"⟩, prog_14_method_40_code, 1, (Option.some Jvm.ClassFile.FieldType.int))
def ov_m238 : ov_M := (⟨"OverFirstModel", "isBarred", "(III)Z"⟩, prog_14_method_44_code, 4, (Option.some Jvm.ClassFile.FieldType.boolean))
def ov_m239 : ov_M := (⟨"OverFirstModel", "light", "(III)I"⟩, prog_14_method_51_code, 4, (Option.some Jvm.ClassFile.FieldType.int))
def ov_m240 : ov_M := (⟨"OverFirstModel", "isCorner", "(II)Z"⟩, prog_14_method_41_code, 3, (Option.some Jvm.ClassFile.FieldType.boolean))
def ov_m241 : ov_M := (⟨"OverFirstModel", "within", "(III)Z"⟩, prog_14_method_17_code, 3, (Option.some Jvm.ClassFile.FieldType.boolean))
def ov_m242 : ov_M := (⟨"OverFirstModel", "kindAt", "(II)I"⟩, prog_14_method_42_code, 3, (Option.some Jvm.ClassFile.FieldType.int))
def ov_m243 : ov_M := (⟨"OverFirstModel", "lightAt", "(III)I"⟩, prog_14_method_43_code, 4, (Option.some Jvm.ClassFile.FieldType.int))
def ov_m244 : ov_M := (⟨"OverFirstModel", "isKnown", "(II)Z"⟩, prog_14_method_59_code, 3, (Option.some Jvm.ClassFile.FieldType.boolean))
def ov_m245 : ov_M := (⟨"OverFirstModel", "green", "(IIII)I"⟩, prog_14_method_54_code, 6, (Option.some Jvm.ClassFile.FieldType.int))
def ov_m246 : ov_M := (⟨"OverFirstModel", "mayAsk", "(IIII)Z"⟩, prog_14_method_53_code, 5, (Option.some Jvm.ClassFile.FieldType.boolean))
def ov_m247 : ov_M := (⟨"OverFirstModel", "isSecond", "(I)Z"⟩, prog_14_method_52_code, 2, (Option.some Jvm.ClassFile.FieldType.boolean))
def ov_m248 : ov_M := (⟨"OverFirstModel", "canGo", "(III)Z"⟩, prog_14_method_47_code, 5, (Option.some Jvm.ClassFile.FieldType.boolean))
def ov_m249 : ov_M := (⟨"OverFirstModel", "isTimed", "(II)Z"⟩, prog_14_method_46_code, 3, (Option.some Jvm.ClassFile.FieldType.boolean))
def ov_m250 : ov_M := (⟨"OverFirstModel", "isGreen", "(IIII)Z"⟩, prog_14_method_49_code, 7, (Option.some Jvm.ClassFile.FieldType.boolean))
def ov_m251 : ov_M := (⟨"OverFirstModel", "until", "(IIII)I"⟩, prog_14_method_55_code, 5, (Option.some Jvm.ClassFile.FieldType.int))
def ov_m252 : ov_M := (⟨"OverFirstModel", "waitFor", "(IIII)I"⟩, prog_14_method_50_code, 6, (Option.some Jvm.ClassFile.FieldType.int))
def ov_m253 : ov_M := (⟨"OverFirstModel", "go", "(IZ)I"⟩, prog_14_method_62_code, 5, (Option.some Jvm.ClassFile.FieldType.int))
def ov_m254 : ov_M := (⟨"OverFirstModel", "keeps", "()V"⟩, prog_14_method_58_code, 2, (Option.none : Option Jvm.ClassFile.FieldType))
def ov_m255 : ov_M := (⟨"OverFirstModel", "copies", "(III)V"⟩, prog_14_method_56_code, 5, (Option.none : Option Jvm.ClassFile.FieldType))
def ov_m256 : ov_M := (⟨"OverFirstModel", "runTime", "()I"⟩, prog_14_method_60_code, 1, (Option.some Jvm.ClassFile.FieldType.int))
def ov_m257 : ov_M := (⟨"OverFirstModel", "stay", "(I)I"⟩, prog_14_method_63_code, 2, (Option.some Jvm.ClassFile.FieldType.int))
def ov_m258 : ov_M := (⟨"OverFirstModel", "look", "()Z"⟩, prog_14_method_64_code, 3, (Option.some Jvm.ClassFile.FieldType.boolean))
def ov_m259 : ov_M := (⟨"OverFirstModel", "undo", "()Z"⟩, prog_14_method_65_code, 1, (Option.some Jvm.ClassFile.FieldType.boolean))
def ov_m260 : ov_M := (⟨"OverFirstModel", "judged", "()I"⟩, prog_14_method_66_code, 8, (Option.some Jvm.ClassFile.FieldType.int))
def ov_m261 : ov_M := (⟨"OverFirstModel", "soonest", "(IIII)I"⟩, prog_14_method_69_code, 11, (Option.some Jvm.ClassFile.FieldType.int))
def ov_m262 : ov_M := (⟨"OverFirstModel", "soonestFrom", "(III)I"⟩, prog_14_method_67_code, 7, (Option.some Jvm.ClassFile.FieldType.int))
def ov_m263 : ov_M := (⟨"OverFirstModel", "isHome", "(II)Z"⟩, prog_14_method_48_code, 3, (Option.some Jvm.ClassFile.FieldType.boolean))
def ov_m264 : ov_M := (⟨"OverFirstModel", "soonestBy", "(IIII)I"⟩, prog_14_method_68_code, 5, (Option.some Jvm.ClassFile.FieldType.int))
def ov_m265 : ov_M := (⟨"OverFirstModel", "latest", "(III)I"⟩, prog_14_method_70_code, 7, (Option.some Jvm.ClassFile.FieldType.int))
def ov_m266 : ov_M := (⟨"OverFirstModel", "turning", "(II)I"⟩, prog_14_method_72_code, 4, (Option.some Jvm.ClassFile.FieldType.int))
def ov_m267 : ov_M := (⟨"OverFirstModel", "turnsFrom", "(IIIII)I"⟩, prog_14_method_71_code, 10, (Option.some Jvm.ClassFile.FieldType.int))
def ov_m268 : ov_M := (⟨"OverFirstModel", "mean", "(IIII)I"⟩, prog_14_method_82_code, 5, (Option.some Jvm.ClassFile.FieldType.int))
def ov_m269 : ov_M := (⟨"OverFirstModel", "isGoer", "(I)Z"⟩, prog_14_method_80_code, 2, (Option.some Jvm.ClassFile.FieldType.boolean))
def ov_m270 : ov_M := (⟨"OverFirstModel", "isPlace", "(III)Z"⟩, prog_14_method_81_code, 4, (Option.some Jvm.ClassFile.FieldType.boolean))
def ov_m271 : ov_M := (⟨"OverFirstModel", "asks", "(IZII)V"⟩, prog_14_method_73_code, 5, (Option.none : Option Jvm.ClassFile.FieldType))
def ov_m272 : ov_M := (⟨"OverFirstModel", "worthFrom", "(III)I"⟩, prog_14_method_75_code, 7, (Option.some Jvm.ClassFile.FieldType.int))
def ov_m273 : ov_M := (⟨"OverFirstModel", "isUnknown", "(II)Z"⟩, prog_14_method_74_code, 3, (Option.some Jvm.ClassFile.FieldType.boolean))
def ov_m274 : ov_M := (⟨"OverFirstModel", "worthHidden", "(III)I"⟩, prog_14_method_76_code, 10, (Option.some Jvm.ClassFile.FieldType.int))
def ov_m275 : ov_M := (⟨"OverFirstModel", "worthSeen", "(IIII)I"⟩, prog_14_method_77_code, 6, (Option.some Jvm.ClassFile.FieldType.int))
def ov_m276 : ov_M := (⟨"OverFirstModel", "wayOf", "(IIII)I"⟩, prog_14_method_79_code, 9, (Option.some Jvm.ClassFile.FieldType.int))
def ov_m277 : ov_M := (⟨"OverFirstModel", "worthBy", "(IIIII)I"⟩, prog_14_method_78_code, 8, (Option.some Jvm.ClassFile.FieldType.int))
def ov_m278 : ov_M := (⟨"OverFirstModel", "worthAt", "(I)I"⟩, prog_14_method_37_code, 5, (Option.some Jvm.ClassFile.FieldType.int))
def ov_m279 : ov_M := (⟨"OverFirstModel", "both", "(III)I"⟩, prog_14_method_38_code, 3, (Option.some Jvm.ClassFile.FieldType.int))
def ov_m280 : ov_M := (⟨"OverFirstModel", "worst", "(IIII)I"⟩, prog_14_method_83_code, 5, (Option.some Jvm.ClassFile.FieldType.int))
def ov_m281 : ov_M := (⟨"OverFirstModel", "choice", "(IIII)I"⟩, prog_14_method_84_code, 6, (Option.some Jvm.ClassFile.FieldType.int))
def ov_m282 : ov_M := (⟨"OverFirstModel", "gap", "(III)I"⟩, prog_14_method_85_code, 6, (Option.some Jvm.ClassFile.FieldType.int))
def ov_m283 : ov_M := (⟨"OverFirstModel", "watch", "(III)I"⟩, prog_14_method_86_code, 8, (Option.some Jvm.ClassFile.FieldType.int))
def ov_m284 : ov_M := (⟨"OverFirstModel", "worthiest", "(I)I"⟩, prog_14_method_87_code, 9, (Option.some Jvm.ClassFile.FieldType.int))
def ov_m285 : ov_M := (⟨"OverFirstModel", "meanFrom0", "(I)I"⟩, prog_14_method_88_code, 2, (Option.some Jvm.ClassFile.FieldType.int))
def ov_m286 : ov_M := (⟨"OverFirstModel", "odds", "(III)I"⟩, prog_14_method_90_code, 4, (Option.some Jvm.ClassFile.FieldType.int))
def ov_m287 : ov_M := (⟨"OverFirstModel", "chanceFrom", "(III)I"⟩, prog_14_method_89_code, 11, (Option.some Jvm.ClassFile.FieldType.int))
def ov_m288 : ov_M := (⟨"OverFirstModel", "pace", "(II)I"⟩, prog_14_method_96_code, 9, (Option.some Jvm.ClassFile.FieldType.int))
def ov_m289 : ov_M := (⟨"OverFirstModel", "bestPace", "(III)I"⟩, prog_14_method_94_code, 8, (Option.some Jvm.ClassFile.FieldType.int))
def ov_m290 : ov_M := (⟨"OverFirstModel", "fastest", "()I"⟩, prog_14_method_91_code, 1, (Option.some Jvm.ClassFile.FieldType.int))
def ov_m291 : ov_M := (⟨"OverFirstModel", "slowTime", "()I"⟩, prog_14_method_61_code, 1, (Option.some Jvm.ClassFile.FieldType.int))
def ov_m292 : ov_M := (⟨"OverFirstModel", "slowest", "()I"⟩, prog_14_method_92_code, 1, (Option.some Jvm.ClassFile.FieldType.int))
def ov_m293 : ov_M := (⟨"OverFirstModel", "paceBy", "(IIII)I"⟩, prog_14_method_95_code, 11, (Option.some Jvm.ClassFile.FieldType.int))
def ov_m294 : ov_M := (⟨"OverFirstModel", "xAt", "(I)I"⟩, prog_14_method_93_code, 4, (Option.some Jvm.ClassFile.FieldType.int))
def ov_m295 : ov_M := (⟨"OverFirstModel", "tried", "(IIZI)Z"⟩, prog_14_method_97_code, 6, (Option.some Jvm.ClassFile.FieldType.boolean))
def ov_m296 : ov_M := (⟨"OverFirstModel", "does", "(III)J"⟩, prog_14_method_98_code, 18, (Option.some Jvm.ClassFile.FieldType.long))
def ov_m297 : ov_M := (⟨"OverFirstModel", "wave", "(IIIZI)I"⟩, prog_14_method_102_code, 11, (Option.some Jvm.ClassFile.FieldType.int))
def ov_m298 : ov_M := (⟨"OverFirstModel", "turned", "(III)J"⟩, prog_14_method_99_code, 6, (Option.some Jvm.ClassFile.FieldType.long))
def ov_m299 : ov_M := (⟨"OverFirstModel", "triesWave", "(IIIJJZ)V"⟩, prog_14_method_101_code, 11, (Option.none : Option Jvm.ClassFile.FieldType))
def ov_m300 : ov_M := (⟨"OverFirstModel", "ones", "(J)I"⟩, prog_14_method_100_code, 4, (Option.some Jvm.ClassFile.FieldType.int))
def ov_m301 : ov_M := (⟨"OverFirstModel", "rules", "()I"⟩, prog_14_method_103_code, 5, (Option.some Jvm.ClassFile.FieldType.int))
def ov_m302 : ov_M := (⟨"OverFirstModel", "was", "(III)Z"⟩, prog_14_method_104_code, 5, (Option.some Jvm.ClassFile.FieldType.boolean))
def ov_m303 : ov_M := (⟨"OverFirstModel", "fits", "(I)J"⟩, prog_14_method_108_code, 6, (Option.some Jvm.ClassFile.FieldType.long))
def ov_m304 : ov_M := (⟨"OverFirstModel", "goesOn", "(IIIIJI)V"⟩, prog_14_method_105_code, 14, (Option.none : Option Jvm.ClassFile.FieldType))
def ov_m305 : ov_M := (⟨"OverFirstModel", "wasBetween", "(IIII)I"⟩, prog_14_method_106_code, 8, (Option.some Jvm.ClassFile.FieldType.int))
def ov_m306 : ov_M := (⟨"OverFirstModel", "fits0", "(IJI)V"⟩, prog_14_method_107_code, 5, (Option.none : Option Jvm.ClassFile.FieldType))
def ov_m307 : ov_M := (⟨"OverFirstModel", "nights", "(IIII)I"⟩, prog_14_method_112_code, 9, (Option.some Jvm.ClassFile.FieldType.int))
def ov_m308 : ov_M := (⟨"OverFirstModel", "draws", "()V"⟩, prog_14_method_110_code, 3, (Option.none : Option Jvm.ClassFile.FieldType))
def ov_m309 : ov_M := (⟨"OverFirstModel", "draw", "(I)I"⟩, prog_14_method_109_code, 2, (Option.some Jvm.ClassFile.FieldType.int))
def ov_m310 : ov_M := (⟨"OverFirstModel", "night", "()I"⟩, prog_14_method_111_code, 6, (Option.some Jvm.ClassFile.FieldType.int))
def ov_m311 : ov_M := (⟨"OverFirstModel", "mark", "(IZ)Z"⟩, prog_14_method_113_code, 3, (Option.some Jvm.ClassFile.FieldType.boolean))
def ov_m312 : ov_M := (⟨"OverFirstModel", "count", "(I)I"⟩, prog_14_method_114_code, 4, (Option.some Jvm.ClassFile.FieldType.int))
def ov_m313 : ov_M := (x, code, maxLocals, ret)
theorem lo_OF_3 : Cond.methodLink "OverFirst" 3 Lib.objectInit ∈ lw_tbl := ov_ch0 (List.mem_of_getElem? (i := 28) rfl)
theorem nl_OF_9 : ov_nl "OverFirst" 9 8 := ⟨by decide, ov_ch0 (List.mem_of_getElem? (i := 31) rfl), ov_ch0 (List.mem_of_getElem? (i := 32) rfl), ov_ch0 (List.mem_of_getElem? (i := 2) rfl)⟩
theorem lb_2 : ov_lB ov_m2 0 := ⟨ov_ch0 (List.mem_of_getElem? (i := 2) rfl), ov_ch0 (List.mem_of_getElem? (i := 35) rfl), ⟨by decide, by decide⟩, by decide +kernel, by decide⟩
theorem lk_OF_11 : ov_lIN "OverFirst" 11 ov_m2 0 := ⟨lb_2, ov_ch0 (List.mem_of_getElem? (i := 33) rfl), ov_ch0 (List.mem_of_getElem? (i := 34) rfl), rfl⟩
theorem fl_OF_12 : ov_fl "OverFirst" 12 0 0 := ⟨by decide, by decide, ov_ch2 (List.mem_of_getElem? (i := 29) rfl)⟩
theorem nl_OF_16 : ov_nl "OverFirst" 16 6 := ⟨by decide, ov_ch0 (List.mem_of_getElem? (i := 68) rfl), ov_ch0 (List.mem_of_getElem? (i := 69) rfl), ov_ch0 (List.mem_of_getElem? (i := 3) rfl)⟩
theorem lb_3 : ov_lB ov_m3 1 := ⟨ov_ch0 (List.mem_of_getElem? (i := 3) rfl), ov_ch0 (List.mem_of_getElem? (i := 72) rfl), ⟨by decide, by decide⟩, by decide +kernel, by decide⟩
theorem lk_OF_18 : ov_lI "OverFirst" 18 ov_m3 1 := ⟨lb_3, ov_ch0 (List.mem_of_getElem? (i := 70) rfl), ov_ch0 (List.mem_of_getElem? (i := 71) rfl), rfl⟩
theorem fl_OF_21 : ov_fl "OverFirst" 21 0 1 := ⟨by decide, by decide, ov_ch2 (List.mem_of_getElem? (i := 30) rfl)⟩
theorem nl_OF_25 : ov_nl "OverFirst" 25 7 := ⟨by decide, ov_ch0 (List.mem_of_getElem? (i := 87) rfl), ov_ch0 (List.mem_of_getElem? (i := 88) rfl), ov_ch0 (List.mem_of_getElem? (i := 4) rfl)⟩
theorem lb_4 : ov_lB ov_m4 0 := ⟨ov_ch0 (List.mem_of_getElem? (i := 4) rfl), ov_ch0 (List.mem_of_getElem? (i := 91) rfl), ⟨by decide, by decide⟩, by decide +kernel, by decide⟩
theorem lk_OF_27 : ov_lIN "OverFirst" 27 ov_m4 0 := ⟨lb_4, ov_ch0 (List.mem_of_getElem? (i := 89) rfl), ov_ch0 (List.mem_of_getElem? (i := 90) rfl), rfl⟩
theorem fl_OF_28 : ov_fl "OverFirst" 28 0 2 := ⟨by decide, by decide, ov_ch2 (List.mem_of_getElem? (i := 31) rfl)⟩
theorem nl_OF_32 : ov_nl "OverFirst" 32 3 := ⟨by decide, ov_ch0 (List.mem_of_getElem? (i := 136) rfl), ov_ch0 (List.mem_of_getElem? (i := 137) rfl), ov_ch0 (List.mem_of_getElem? (i := 5) rfl)⟩
theorem lb_5 : ov_lB ov_m5 0 := ⟨ov_ch0 (List.mem_of_getElem? (i := 5) rfl), ov_ch0 (List.mem_of_getElem? (i := 140) rfl), ⟨by decide, by decide⟩, by decide +kernel, by decide⟩
theorem lk_OF_34 : ov_lIN "OverFirst" 34 ov_m5 0 := ⟨lb_5, ov_ch0 (List.mem_of_getElem? (i := 138) rfl), ov_ch0 (List.mem_of_getElem? (i := 139) rfl), rfl⟩
theorem fl_OF_35 : ov_fl "OverFirst" 35 0 3 := ⟨by decide, by decide, ov_ch2 (List.mem_of_getElem? (i := 32) rfl)⟩
theorem fl_OF_39 : ov_fl "OverFirst" 39 0 4 := ⟨by decide, by decide, ov_ch2 (List.mem_of_getElem? (i := 33) rfl)⟩
theorem fl_OF_43 : ov_fl "OverFirst" 43 0 5 := ⟨by decide, by decide, ov_ch2 (List.mem_of_getElem? (i := 34) rfl)⟩
theorem nl_OF_47 : ov_nl "OverFirst" 47 2 := ⟨by decide, ov_ch0 (List.mem_of_getElem? (i := 164) rfl), ov_ch0 (List.mem_of_getElem? (i := 165) rfl), ov_ch0 (List.mem_of_getElem? (i := 6) rfl)⟩
theorem lb_6 : ov_lB ov_m6 0 := ⟨ov_ch0 (List.mem_of_getElem? (i := 6) rfl), ov_ch0 (List.mem_of_getElem? (i := 168) rfl), ⟨by decide, by decide⟩, by decide +kernel, by decide⟩
theorem lk_OF_49 : ov_lIN "OverFirst" 49 ov_m6 0 := ⟨lb_6, ov_ch0 (List.mem_of_getElem? (i := 166) rfl), ov_ch0 (List.mem_of_getElem? (i := 167) rfl), rfl⟩
theorem fl_OF_50 : ov_fl "OverFirst" 50 0 6 := ⟨by decide, by decide, ov_ch2 (List.mem_of_getElem? (i := 35) rfl)⟩
theorem nl_OF_54 : ov_nl "OverFirst" 54 12 := ⟨by decide, ov_ch1 (List.mem_of_getElem? (i := 4) rfl), ov_ch1 (List.mem_of_getElem? (i := 5) rfl), ov_ch0 (List.mem_of_getElem? (i := 8) rfl)⟩
theorem lb_8 : ov_lB ov_m8 0 := ⟨ov_ch0 (List.mem_of_getElem? (i := 8) rfl), ov_ch1 (List.mem_of_getElem? (i := 8) rfl), ⟨by decide, by decide⟩, by decide +kernel, by decide⟩
theorem lk_OF_56 : ov_lIN "OverFirst" 56 ov_m8 0 := ⟨lb_8, ov_ch1 (List.mem_of_getElem? (i := 6) rfl), ov_ch1 (List.mem_of_getElem? (i := 7) rfl), rfl⟩
theorem fl_OF_57 : ov_fl "OverFirst" 57 0 7 := ⟨by decide, by decide, ov_ch2 (List.mem_of_getElem? (i := 36) rfl)⟩
theorem nl_OF_61 : ov_nl "OverFirst" 61 5 := ⟨by decide, ov_ch1 (List.mem_of_getElem? (i := 34) rfl), ov_ch1 (List.mem_of_getElem? (i := 35) rfl), ov_ch0 (List.mem_of_getElem? (i := 9) rfl)⟩
theorem lb_9 : ov_lB ov_m9 0 := ⟨ov_ch0 (List.mem_of_getElem? (i := 9) rfl), ov_ch1 (List.mem_of_getElem? (i := 38) rfl), ⟨by decide, by decide⟩, by decide +kernel, by decide⟩
theorem lk_OF_63 : ov_lIN "OverFirst" 63 ov_m9 0 := ⟨lb_9, ov_ch1 (List.mem_of_getElem? (i := 36) rfl), ov_ch1 (List.mem_of_getElem? (i := 37) rfl), rfl⟩
theorem fl_OF_64 : ov_fl "OverFirst" 64 0 8 := ⟨by decide, by decide, ov_ch2 (List.mem_of_getElem? (i := 37) rfl)⟩
theorem nl_OF_68 : ov_nl "OverFirst" 68 11 := ⟨by decide, ov_ch1 (List.mem_of_getElem? (i := 73) rfl), ov_ch1 (List.mem_of_getElem? (i := 74) rfl), ov_ch0 (List.mem_of_getElem? (i := 10) rfl)⟩
theorem lb_10 : ov_lB ov_m10 0 := ⟨ov_ch0 (List.mem_of_getElem? (i := 10) rfl), ov_ch1 (List.mem_of_getElem? (i := 77) rfl), ⟨by decide, by decide⟩, by decide +kernel, by decide⟩
theorem lk_OF_70 : ov_lIN "OverFirst" 70 ov_m10 0 := ⟨lb_10, ov_ch1 (List.mem_of_getElem? (i := 75) rfl), ov_ch1 (List.mem_of_getElem? (i := 76) rfl), rfl⟩
theorem fl_OF_71 : ov_fl "OverFirst" 71 0 9 := ⟨by decide, by decide, ov_ch2 (List.mem_of_getElem? (i := 38) rfl)⟩
theorem nl_OF_75 : ov_nl "OverFirst" 75 9 := ⟨by decide, ov_ch1 (List.mem_of_getElem? (i := 109) rfl), ov_ch1 (List.mem_of_getElem? (i := 110) rfl), ov_ch0 (List.mem_of_getElem? (i := 11) rfl)⟩
theorem lb_11 : ov_lB ov_m11 0 := ⟨ov_ch0 (List.mem_of_getElem? (i := 11) rfl), ov_ch1 (List.mem_of_getElem? (i := 113) rfl), ⟨by decide, by decide⟩, by decide +kernel, by decide⟩
theorem lk_OF_77 : ov_lIN "OverFirst" 77 ov_m11 0 := ⟨lb_11, ov_ch1 (List.mem_of_getElem? (i := 111) rfl), ov_ch1 (List.mem_of_getElem? (i := 112) rfl), rfl⟩
theorem fl_OF_78 : ov_fl "OverFirst" 78 0 10 := ⟨by decide, by decide, ov_ch2 (List.mem_of_getElem? (i := 39) rfl)⟩
theorem fl_OF_82 : ov_fl "OverFirst" 82 0 11 := ⟨by decide, by decide, ov_ch2 (List.mem_of_getElem? (i := 40) rfl)⟩
theorem nl_OF_85 : ov_nl "OverFirst" 85 10 := ⟨by decide, ov_ch1 (List.mem_of_getElem? (i := 210) rfl), ov_ch1 (List.mem_of_getElem? (i := 211) rfl), ov_ch0 (List.mem_of_getElem? (i := 12) rfl)⟩
theorem lb_12 : ov_lB ov_m12 0 := ⟨ov_ch0 (List.mem_of_getElem? (i := 12) rfl), ov_ch1 (List.mem_of_getElem? (i := 214) rfl), ⟨by decide, by decide⟩, by decide +kernel, by decide⟩
theorem lk_OF_87 : ov_lIN "OverFirst" 87 ov_m12 0 := ⟨lb_12, ov_ch1 (List.mem_of_getElem? (i := 212) rfl), ov_ch1 (List.mem_of_getElem? (i := 213) rfl), rfl⟩
theorem fl_OF_88 : ov_fl "OverFirst" 88 0 12 := ⟨by decide, by decide, ov_ch2 (List.mem_of_getElem? (i := 41) rfl)⟩
theorem fl_OF_92 : ov_fl "OverFirst" 92 0 13 := ⟨by decide, by decide, ov_ch2 (List.mem_of_getElem? (i := 42) rfl)⟩
theorem lb_13 : ov_lB ov_m13 0 := ⟨ov_ch0 (List.mem_of_getElem? (i := 11) rfl), ov_ch2 (List.mem_of_getElem? (i := 1) rfl), ⟨by decide, by decide⟩, by decide +kernel, by decide⟩
theorem lk_OF_95 : ov_lV "OverFirst" 95 ov_m13 0 := ⟨lb_13, ov_ch1 (List.mem_of_getElem? (i := 238) rfl), ov_ch1 (List.mem_of_getElem? (i := 239) rfl), ov_ch2 (List.mem_of_getElem? (i := 0) rfl)⟩
theorem lb_15 : ov_lB ov_m15 0 := ⟨ov_ch0 (List.mem_of_getElem? (i := 11) rfl), ov_ch2 (List.mem_of_getElem? (i := 8) rfl), ⟨by decide, by decide⟩, by decide +kernel, by decide⟩
theorem lk_OF_98 : ov_lV "OverFirst" 98 ov_m15 0 := ⟨lb_15, ov_ch2 (List.mem_of_getElem? (i := 5) rfl), ov_ch2 (List.mem_of_getElem? (i := 6) rfl), ov_ch2 (List.mem_of_getElem? (i := 7) rfl)⟩
theorem lb_22 : ov_lB ov_m22 1 := ⟨ov_ch0 (List.mem_of_getElem? (i := 2) rfl), ov_ch2 (List.mem_of_getElem? (i := 79) rfl), ⟨by decide, by decide⟩, by decide +kernel, by decide⟩
theorem lk_OF_101 : ov_lV "OverFirst" 101 ov_m22 1 := ⟨lb_22, ov_ch2 (List.mem_of_getElem? (i := 76) rfl), ov_ch2 (List.mem_of_getElem? (i := 77) rfl), ov_ch2 (List.mem_of_getElem? (i := 78) rfl)⟩
theorem fl_OF_105 : ov_fl "OverFirst" 105 8 1 := ⟨by decide, by decide, ov_ch0 (List.mem_of_getElem? (i := 39) rfl)⟩
theorem lb_24 : ov_lB ov_m24 1 := ⟨ov_ch0 (List.mem_of_getElem? (i := 3) rfl), ov_ch2 (List.mem_of_getElem? (i := 88) rfl), ⟨by decide, by decide⟩, by decide +kernel, by decide⟩
theorem lk_OF_109 : ov_lV "OverFirst" 109 ov_m24 1 := ⟨lb_24, ov_ch2 (List.mem_of_getElem? (i := 85) rfl), ov_ch2 (List.mem_of_getElem? (i := 86) rfl), ov_ch2 (List.mem_of_getElem? (i := 87) rfl)⟩
theorem lb_80 : ov_lB ov_m80 0 := ⟨ov_ch0 (List.mem_of_getElem? (i := 12) rfl), ov_ch3 (List.mem_of_getElem? (i := 97) rfl), ⟨by decide, by decide⟩, by decide +kernel, by decide⟩
theorem lk_OF_113 : ov_lV "OverFirst" 113 ov_m80 0 := ⟨lb_80, ov_ch3 (List.mem_of_getElem? (i := 94) rfl), ov_ch3 (List.mem_of_getElem? (i := 95) rfl), ov_ch3 (List.mem_of_getElem? (i := 96) rfl)⟩
theorem lb_81 : ov_lB ov_m81 0 := ⟨ov_ch0 (List.mem_of_getElem? (i := 4) rfl), ov_ch3 (List.mem_of_getElem? (i := 101) rfl), ⟨by decide, by decide⟩, by decide +kernel, by decide⟩
theorem lk_OF_114 : ov_lV "OverFirst" 114 ov_m81 0 := ⟨lb_81, ov_ch3 (List.mem_of_getElem? (i := 98) rfl), ov_ch3 (List.mem_of_getElem? (i := 99) rfl), ov_ch3 (List.mem_of_getElem? (i := 100) rfl)⟩
theorem lb_82 : ov_lB ov_m82 0 := ⟨ov_ch0 (List.mem_of_getElem? (i := 5) rfl), ov_ch3 (List.mem_of_getElem? (i := 105) rfl), ⟨by decide, by decide⟩, by decide +kernel, by decide⟩
theorem lk_OF_115 : ov_lV "OverFirst" 115 ov_m82 0 := ⟨lb_82, ov_ch3 (List.mem_of_getElem? (i := 102) rfl), ov_ch3 (List.mem_of_getElem? (i := 103) rfl), ov_ch3 (List.mem_of_getElem? (i := 104) rfl)⟩
theorem lb_83 : ov_lB ov_m83 0 := ⟨ov_ch0 (List.mem_of_getElem? (i := 1) rfl), ov_ch3 (List.mem_of_getElem? (i := 109) rfl), ⟨by decide, by decide⟩, by decide +kernel, by decide⟩
theorem lk_OF_116 : ov_lV "OverFirst" 116 ov_m83 0 := ⟨lb_83, ov_ch3 (List.mem_of_getElem? (i := 106) rfl), ov_ch3 (List.mem_of_getElem? (i := 108) rfl), List.mem_of_getElem? (i := 24) rfl⟩
theorem lb_84 : ov_lB ov_m84 0 := ⟨ov_ch0 (List.mem_of_getElem? (i := 1) rfl), ov_ch3 (List.mem_of_getElem? (i := 113) rfl), ⟨by decide, by decide⟩, by decide +kernel, by decide⟩
theorem lk_OF_119 : ov_lV "OverFirst" 119 ov_m84 0 := ⟨lb_84, ov_ch3 (List.mem_of_getElem? (i := 110) rfl), ov_ch3 (List.mem_of_getElem? (i := 112) rfl), List.mem_of_getElem? (i := 25) rfl⟩
theorem lb_89 : ov_lB ov_m89 2 := ⟨ov_ch0 (List.mem_of_getElem? (i := 3) rfl), ov_ch3 (List.mem_of_getElem? (i := 134) rfl), ⟨by decide, by decide⟩, by decide +kernel, by decide⟩
theorem lk_OF_122 : ov_lV "OverFirst" 122 ov_m89 2 := ⟨lb_89, ov_ch3 (List.mem_of_getElem? (i := 131) rfl), ov_ch3 (List.mem_of_getElem? (i := 132) rfl), ov_ch3 (List.mem_of_getElem? (i := 133) rfl)⟩
theorem lb_86 : ov_lB ov_m86 0 := ⟨ov_ch0 (List.mem_of_getElem? (i := 9) rfl), ov_ch3 (List.mem_of_getElem? (i := 121) rfl), ⟨by decide, by decide⟩, by decide +kernel, by decide⟩
theorem lk_OF_126 : ov_lV "OverFirst" 126 ov_m86 0 := ⟨lb_86, ov_ch3 (List.mem_of_getElem? (i := 118) rfl), ov_ch3 (List.mem_of_getElem? (i := 119) rfl), ov_ch3 (List.mem_of_getElem? (i := 120) rfl)⟩
theorem lb_85 : ov_lB ov_m85 0 := ⟨ov_ch0 (List.mem_of_getElem? (i := 6) rfl), ov_ch3 (List.mem_of_getElem? (i := 117) rfl), ⟨by decide, by decide⟩, by decide +kernel, by decide⟩
theorem lk_OF_129 : ov_lV "OverFirst" 129 ov_m85 0 := ⟨lb_85, ov_ch3 (List.mem_of_getElem? (i := 114) rfl), ov_ch3 (List.mem_of_getElem? (i := 115) rfl), ov_ch3 (List.mem_of_getElem? (i := 116) rfl)⟩
theorem lb_87 : ov_lB ov_m87 0 := ⟨ov_ch0 (List.mem_of_getElem? (i := 10) rfl), ov_ch3 (List.mem_of_getElem? (i := 125) rfl), ⟨by decide, by decide⟩, by decide +kernel, by decide⟩
theorem lk_OF_130 : ov_lV "OverFirst" 130 ov_m87 0 := ⟨lb_87, ov_ch3 (List.mem_of_getElem? (i := 122) rfl), ov_ch3 (List.mem_of_getElem? (i := 123) rfl), ov_ch3 (List.mem_of_getElem? (i := 124) rfl)⟩
theorem lb_94 : ov_lB ov_m94 2 := ⟨ov_ch0 (List.mem_of_getElem? (i := 11) rfl), ov_ch3 (List.mem_of_getElem? (i := 156) rfl), ⟨by decide, by decide⟩, by decide +kernel, by decide⟩
theorem lk_OF_131 : ov_lV "OverFirst" 131 ov_m94 2 := ⟨lb_94, ov_ch3 (List.mem_of_getElem? (i := 153) rfl), ov_ch3 (List.mem_of_getElem? (i := 154) rfl), ov_ch3 (List.mem_of_getElem? (i := 155) rfl)⟩
theorem fl_OF_135 : ov_fl "OverFirst" 135 9 6 := ⟨by decide, by decide, ov_ch1 (List.mem_of_getElem? (i := 141) rfl)⟩
theorem fl_OF_139 : ov_fl "OverFirst" 139 9 2 := ⟨by decide, by decide, ov_ch1 (List.mem_of_getElem? (i := 124) rfl)⟩
theorem fl_OF_142 : ov_fl "OverFirst" 142 9 3 := ⟨by decide, by decide, ov_ch1 (List.mem_of_getElem? (i := 129) rfl)⟩
theorem fl_OF_145 : ov_fl "OverFirst" 145 9 4 := ⟨by decide, by decide, ov_ch1 (List.mem_of_getElem? (i := 133) rfl)⟩
theorem fl_OF_148 : ov_fl "OverFirst" 148 9 5 := ⟨by decide, by decide, ov_ch1 (List.mem_of_getElem? (i := 138) rfl)⟩
theorem lb_95 : ov_lB ov_m95 1 := ⟨ov_ch0 (List.mem_of_getElem? (i := 4) rfl), ov_ch3 (List.mem_of_getElem? (i := 160) rfl), ⟨by decide, by decide⟩, by decide +kernel, by decide⟩
theorem lk_OF_151 : ov_lV "OverFirst" 151 ov_m95 1 := ⟨lb_95, ov_ch3 (List.mem_of_getElem? (i := 157) rfl), ov_ch3 (List.mem_of_getElem? (i := 158) rfl), ov_ch3 (List.mem_of_getElem? (i := 159) rfl)⟩
theorem lb_97 : ov_lB ov_m97 1 := ⟨ov_ch0 (List.mem_of_getElem? (i := 1) rfl), ov_ch3 (List.mem_of_getElem? (i := 167) rfl), ⟨by decide, by decide⟩, by decide +kernel, by decide⟩
theorem lk_OF_155 : ov_lS "OverFirst" 155 ov_m97 1 := ⟨lb_97, ov_ch3 (List.mem_of_getElem? (i := 165) rfl), ov_ch3 (List.mem_of_getElem? (i := 166) rfl)⟩
theorem lb_98 : ov_lB ov_m98 2 := ⟨ov_ch0 (List.mem_of_getElem? (i := 11) rfl), ov_ch3 (List.mem_of_getElem? (i := 172) rfl), ⟨by decide, by decide⟩, by decide +kernel, by decide⟩
theorem lk_OF_158 : ov_lV "OverFirst" 158 ov_m98 2 := ⟨lb_98, ov_ch3 (List.mem_of_getElem? (i := 169) rfl), ov_ch3 (List.mem_of_getElem? (i := 170) rfl), ov_ch3 (List.mem_of_getElem? (i := 171) rfl)⟩
theorem lb_99 : ov_lB ov_m99 3 := ⟨ov_ch0 (List.mem_of_getElem? (i := 11) rfl), ov_ch3 (List.mem_of_getElem? (i := 176) rfl), ⟨by decide, by decide⟩, by decide +kernel, by decide⟩
theorem lk_OF_162 : ov_lV "OverFirst" 162 ov_m99 3 := ⟨lb_99, ov_ch3 (List.mem_of_getElem? (i := 173) rfl), ov_ch3 (List.mem_of_getElem? (i := 174) rfl), ov_ch3 (List.mem_of_getElem? (i := 175) rfl)⟩
theorem fl_OF_166 : ov_fl "OverFirst" 166 7 0 := ⟨by decide, by decide, ov_ch0 (List.mem_of_getElem? (i := 95) rfl)⟩
theorem lb_103 : ov_lB ov_m103 0 := ⟨ov_ch0 (List.mem_of_getElem? (i := 1) rfl), ov_ch3 (List.mem_of_getElem? (i := 191) rfl), ⟨by decide, by decide⟩, by decide +kernel, by decide⟩
theorem lk_OF_168 : ov_lV "OverFirst" 168 ov_m103 0 := ⟨lb_103, ov_ch3 (List.mem_of_getElem? (i := 188) rfl), ov_ch3 (List.mem_of_getElem? (i := 190) rfl), List.mem_of_getElem? (i := 27) rfl⟩
theorem lb_104 : ov_lB ov_m104 1 := ⟨ov_ch0 (List.mem_of_getElem? (i := 5) rfl), ov_ch3 (List.mem_of_getElem? (i := 195) rfl), ⟨by decide, by decide⟩, by decide +kernel, by decide⟩
theorem lk_OF_172 : ov_lV "OverFirst" 172 ov_m104 1 := ⟨lb_104, ov_ch3 (List.mem_of_getElem? (i := 192) rfl), ov_ch3 (List.mem_of_getElem? (i := 193) rfl), ov_ch3 (List.mem_of_getElem? (i := 194) rfl)⟩
theorem fl_OF_176 : ov_fl "OverFirst" 176 9 7 := ⟨by decide, by decide, ov_ch1 (List.mem_of_getElem? (i := 149) rfl)⟩
theorem fl_OF_179 : ov_fl "OverFirst" 179 7 1 := ⟨by decide, by decide, ov_ch0 (List.mem_of_getElem? (i := 98) rfl)⟩
theorem lb_91 : ov_lB ov_m91 2 := ⟨ov_ch0 (List.mem_of_getElem? (i := 11) rfl), ov_ch3 (List.mem_of_getElem? (i := 144) rfl), ⟨by decide, by decide⟩, by decide +kernel, by decide⟩
theorem lk_OF_182 : ov_lV "OverFirst" 182 ov_m91 2 := ⟨lb_91, ov_ch3 (List.mem_of_getElem? (i := 197) rfl), ov_ch3 (List.mem_of_getElem? (i := 142) rfl), ov_ch3 (List.mem_of_getElem? (i := 143) rfl)⟩
theorem fl_OF_185 : ov_fl "OverFirst" 185 7 2 := ⟨by decide, by decide, ov_ch0 (List.mem_of_getElem? (i := 101) rfl)⟩
theorem fl_OF_188 : ov_fl "OverFirst" 188 9 8 := ⟨by decide, by decide, ov_ch1 (List.mem_of_getElem? (i := 153) rfl)⟩
theorem fl_OF_192 : ov_fl "OverFirst" 192 7 3 := ⟨by decide, by decide, ov_ch0 (List.mem_of_getElem? (i := 104) rfl)⟩
theorem lb_108 : ov_lB ov_m108 1 := ⟨ov_ch0 (List.mem_of_getElem? (i := 5) rfl), ov_ch3 (List.mem_of_getElem? (i := 213) rfl), ⟨by decide, by decide⟩, by decide +kernel, by decide⟩
theorem lk_OF_196 : ov_lV "OverFirst" 196 ov_m108 1 := ⟨lb_108, ov_ch3 (List.mem_of_getElem? (i := 210) rfl), ov_ch3 (List.mem_of_getElem? (i := 211) rfl), ov_ch3 (List.mem_of_getElem? (i := 212) rfl)⟩
theorem lb_110 : ov_lB ov_m110 1 := ⟨ov_ch0 (List.mem_of_getElem? (i := 12) rfl), ov_ch3 (List.mem_of_getElem? (i := 221) rfl), ⟨by decide, by decide⟩, by decide +kernel, by decide⟩
theorem lk_OF_200 : ov_lV "OverFirst" 200 ov_m110 1 := ⟨lb_110, ov_ch3 (List.mem_of_getElem? (i := 218) rfl), ov_ch3 (List.mem_of_getElem? (i := 219) rfl), ov_ch3 (List.mem_of_getElem? (i := 220) rfl)⟩
theorem lb_113 : ov_lB ov_m113 4 := ⟨ov_ch0 (List.mem_of_getElem? (i := 8) rfl), ov_ch3 (List.mem_of_getElem? (i := 234) rfl), ⟨by decide, by decide⟩, by decide +kernel, by decide⟩
theorem lk_OF_203 : ov_lV "OverFirst" 203 ov_m113 4 := ⟨lb_113, ov_ch3 (List.mem_of_getElem? (i := 231) rfl), ov_ch3 (List.mem_of_getElem? (i := 232) rfl), ov_ch3 (List.mem_of_getElem? (i := 233) rfl)⟩
theorem lb_114 : ov_lB ov_m114 3 := ⟨ov_ch0 (List.mem_of_getElem? (i := 8) rfl), ov_ch3 (List.mem_of_getElem? (i := 238) rfl), ⟨by decide, by decide⟩, by decide +kernel, by decide⟩
theorem lk_OF_207 : ov_lV "OverFirst" 207 ov_m114 3 := ⟨lb_114, ov_ch4 (List.mem_of_getElem? (i := 22) rfl), ov_ch3 (List.mem_of_getElem? (i := 236) rfl), ov_ch3 (List.mem_of_getElem? (i := 237) rfl)⟩
theorem lb_121 : ov_lB ov_m121 4 := ⟨ov_ch0 (List.mem_of_getElem? (i := 1) rfl), ov_ch4 (List.mem_of_getElem? (i := 30) rfl), ⟨by decide, by decide⟩, by decide +kernel, by decide⟩
theorem lk_OF_211 : ov_lV "OverFirst" 211 ov_m121 4 := ⟨lb_121, ov_ch4 (List.mem_of_getElem? (i := 27) rfl), ov_ch4 (List.mem_of_getElem? (i := 29) rfl), List.mem_of_getElem? (i := 32) rfl⟩
theorem lb_122 : ov_lB ov_m122 1 := ⟨ov_ch0 (List.mem_of_getElem? (i := 1) rfl), ov_ch4 (List.mem_of_getElem? (i := 34) rfl), ⟨by decide, by decide⟩, by decide +kernel, by decide⟩
theorem lk_OF_215 : ov_lV "OverFirst" 215 ov_m122 1 := ⟨lb_122, ov_ch4 (List.mem_of_getElem? (i := 31) rfl), ov_ch4 (List.mem_of_getElem? (i := 33) rfl), List.mem_of_getElem? (i := 33) rfl⟩
theorem lb_123 : ov_lB ov_m123 4 := ⟨ov_ch0 (List.mem_of_getElem? (i := 6) rfl), ov_ch4 (List.mem_of_getElem? (i := 38) rfl), ⟨by decide, by decide⟩, by decide +kernel, by decide⟩
theorem lk_OF_218 : ov_lV "OverFirst" 218 ov_m123 4 := ⟨lb_123, ov_ch4 (List.mem_of_getElem? (i := 35) rfl), ov_ch4 (List.mem_of_getElem? (i := 36) rfl), ov_ch4 (List.mem_of_getElem? (i := 37) rfl)⟩
theorem lb_127 : ov_lB ov_m127 2 := ⟨ov_ch0 (List.mem_of_getElem? (i := 6) rfl), ov_ch4 (List.mem_of_getElem? (i := 61) rfl), ⟨by decide, by decide⟩, by decide +kernel, by decide⟩
theorem lk_OF_222 : ov_lV "OverFirst" 222 ov_m127 2 := ⟨lb_127, ov_ch4 (List.mem_of_getElem? (i := 58) rfl), ov_ch4 (List.mem_of_getElem? (i := 59) rfl), ov_ch4 (List.mem_of_getElem? (i := 60) rfl)⟩
theorem lb_115 : ov_lB ov_m115 0 := ⟨ov_ch0 (List.mem_of_getElem? (i := 11) rfl), ov_ch4 (List.mem_of_getElem? (i := 3) rfl), ⟨by decide, by decide⟩, by decide +kernel, by decide⟩
theorem lk_OF_225 : ov_lV "OverFirst" 225 ov_m115 0 := ⟨lb_115, ov_ch4 (List.mem_of_getElem? (i := 130) rfl), ov_ch4 (List.mem_of_getElem? (i := 1) rfl), ov_ch4 (List.mem_of_getElem? (i := 2) rfl)⟩
theorem lb_126 : ov_lB ov_m126 1 := ⟨ov_ch0 (List.mem_of_getElem? (i := 6) rfl), ov_ch4 (List.mem_of_getElem? (i := 54) rfl), ⟨by decide, by decide⟩, by decide +kernel, by decide⟩
theorem lk_OF_228 : ov_lV "OverFirst" 228 ov_m126 1 := ⟨lb_126, ov_ch4 (List.mem_of_getElem? (i := 131) rfl), ov_ch4 (List.mem_of_getElem? (i := 52) rfl), ov_ch4 (List.mem_of_getElem? (i := 53) rfl)⟩
theorem lb_144 : ov_lB ov_m144 3 := ⟨ov_ch0 (List.mem_of_getElem? (i := 6) rfl), ov_ch4 (List.mem_of_getElem? (i := 135) rfl), ⟨by decide, by decide⟩, by decide +kernel, by decide⟩
theorem lk_OF_231 : ov_lV "OverFirst" 231 ov_m144 3 := ⟨lb_144, ov_ch4 (List.mem_of_getElem? (i := 132) rfl), ov_ch4 (List.mem_of_getElem? (i := 133) rfl), ov_ch4 (List.mem_of_getElem? (i := 134) rfl)⟩
theorem lb_120 : ov_lB ov_m120 4 := ⟨ov_ch0 (List.mem_of_getElem? (i := 1) rfl), ov_ch4 (List.mem_of_getElem? (i := 26) rfl), ⟨by decide, by decide⟩, by decide +kernel, by decide⟩
theorem lk_OF_234 : ov_lV "OverFirst" 234 ov_m120 4 := ⟨lb_120, ov_ch4 (List.mem_of_getElem? (i := 140) rfl), ov_ch4 (List.mem_of_getElem? (i := 24) rfl), ov_ch4 (List.mem_of_getElem? (i := 25) rfl)⟩
theorem lb_147 : ov_lB ov_m147 2 := ⟨ov_ch0 (List.mem_of_getElem? (i := 6) rfl), ov_ch4 (List.mem_of_getElem? (i := 148) rfl), ⟨by decide, by decide⟩, by decide +kernel, by decide⟩
theorem lk_OF_238 : ov_lV "OverFirst" 238 ov_m147 2 := ⟨lb_147, ov_ch4 (List.mem_of_getElem? (i := 145) rfl), ov_ch4 (List.mem_of_getElem? (i := 146) rfl), ov_ch4 (List.mem_of_getElem? (i := 147) rfl)⟩
theorem lb_150 : ov_lB ov_m150 3 := ⟨ov_ch0 (List.mem_of_getElem? (i := 8) rfl), ov_ch4 (List.mem_of_getElem? (i := 162) rfl), ⟨by decide, by decide⟩, by decide +kernel, by decide⟩
theorem lk_OF_241 : ov_lV "OverFirst" 241 ov_m150 3 := ⟨lb_150, ov_ch4 (List.mem_of_getElem? (i := 159) rfl), ov_ch4 (List.mem_of_getElem? (i := 160) rfl), ov_ch4 (List.mem_of_getElem? (i := 161) rfl)⟩
theorem lb_152 : ov_lB ov_m152 3 := ⟨ov_ch0 (List.mem_of_getElem? (i := 8) rfl), ov_ch4 (List.mem_of_getElem? (i := 170) rfl), ⟨by decide, by decide⟩, by decide +kernel, by decide⟩
theorem lk_OF_244 : ov_lV "OverFirst" 244 ov_m152 3 := ⟨lb_152, ov_ch4 (List.mem_of_getElem? (i := 167) rfl), ov_ch4 (List.mem_of_getElem? (i := 168) rfl), ov_ch4 (List.mem_of_getElem? (i := 169) rfl)⟩
theorem lb_157 : ov_lB ov_m157 1 := ⟨ov_ch0 (List.mem_of_getElem? (i := 6) rfl), ov_ch4 (List.mem_of_getElem? (i := 189) rfl), ⟨by decide, by decide⟩, by decide +kernel, by decide⟩
theorem lk_OF_247 : ov_lV "OverFirst" 247 ov_m157 1 := ⟨lb_157, ov_ch4 (List.mem_of_getElem? (i := 186) rfl), ov_ch4 (List.mem_of_getElem? (i := 187) rfl), ov_ch4 (List.mem_of_getElem? (i := 188) rfl)⟩
theorem lb_159 : ov_lB ov_m159 2 := ⟨ov_ch0 (List.mem_of_getElem? (i := 6) rfl), ov_ch4 (List.mem_of_getElem? (i := 198) rfl), ⟨by decide, by decide⟩, by decide +kernel, by decide⟩
theorem lk_OF_251 : ov_lV "OverFirst" 251 ov_m159 2 := ⟨lb_159, ov_ch4 (List.mem_of_getElem? (i := 195) rfl), ov_ch4 (List.mem_of_getElem? (i := 196) rfl), ov_ch4 (List.mem_of_getElem? (i := 197) rfl)⟩
theorem fl_OF_254 : ov_fl "OverFirst" 254 10 0 := ⟨by decide, by decide, ov_ch1 (List.mem_of_getElem? (i := 219) rfl)⟩
theorem lb_165 : ov_lB ov_m165 3 := ⟨ov_ch0 (List.mem_of_getElem? (i := 9) rfl), ov_ch4 (List.mem_of_getElem? (i := 226) rfl), ⟨by decide, by decide⟩, by decide +kernel, by decide⟩
theorem lk_OF_257 : ov_lV "OverFirst" 257 ov_m165 3 := ⟨lb_165, ov_ch4 (List.mem_of_getElem? (i := 223) rfl), ov_ch4 (List.mem_of_getElem? (i := 224) rfl), ov_ch4 (List.mem_of_getElem? (i := 225) rfl)⟩
theorem fl_OF_261 : ov_fl "OverFirst" 261 5 0 := ⟨by decide, by decide, ov_ch1 (List.mem_of_getElem? (i := 43) rfl)⟩
theorem fl_OF_264 : ov_fl "OverFirst" 264 5 1 := ⟨by decide, by decide, ov_ch1 (List.mem_of_getElem? (i := 45) rfl)⟩
theorem fl_OF_267 : ov_fl "OverFirst" 267 5 2 := ⟨by decide, by decide, ov_ch1 (List.mem_of_getElem? (i := 47) rfl)⟩
theorem lb_173 : ov_lB ov_m173 3 := ⟨ov_ch0 (List.mem_of_getElem? (i := 4) rfl), ov_ch5 (List.mem_of_getElem? (i := 24) rfl), ⟨by decide, by decide⟩, by decide +kernel, by decide⟩
theorem lk_OF_270 : ov_lV "OverFirst" 270 ov_m173 3 := ⟨lb_173, ov_ch5 (List.mem_of_getElem? (i := 21) rfl), ov_ch5 (List.mem_of_getElem? (i := 22) rfl), ov_ch5 (List.mem_of_getElem? (i := 23) rfl)⟩
theorem kc_OF_274 : Cond.constantLong "OverFirst" 274 (Int64.ofInt (-1)) ∈ lw_tbl := ov_ch5 (List.mem_of_getElem? (i := 29) rfl)
theorem lb_175 : ov_lB ov_m175 4 := ⟨ov_ch0 (List.mem_of_getElem? (i := 4) rfl), ov_ch5 (List.mem_of_getElem? (i := 33) rfl), ⟨by decide, by decide⟩, by decide +kernel, by decide⟩
theorem lk_OF_276 : ov_lV "OverFirst" 276 ov_m175 4 := ⟨lb_175, ov_ch5 (List.mem_of_getElem? (i := 30) rfl), ov_ch5 (List.mem_of_getElem? (i := 31) rfl), ov_ch5 (List.mem_of_getElem? (i := 32) rfl)⟩
theorem lb_177 : ov_lB ov_m177 2 := ⟨ov_ch0 (List.mem_of_getElem? (i := 11) rfl), ov_ch5 (List.mem_of_getElem? (i := 43) rfl), ⟨by decide, by decide⟩, by decide +kernel, by decide⟩
theorem lk_OF_280 : ov_lV "OverFirst" 280 ov_m177 2 := ⟨lb_177, ov_ch5 (List.mem_of_getElem? (i := 40) rfl), ov_ch5 (List.mem_of_getElem? (i := 41) rfl), ov_ch5 (List.mem_of_getElem? (i := 42) rfl)⟩
theorem lb_178 : ov_lB ov_m178 4 := ⟨ov_ch0 (List.mem_of_getElem? (i := 10) rfl), ov_ch5 (List.mem_of_getElem? (i := 47) rfl), ⟨by decide, by decide⟩, by decide +kernel, by decide⟩
theorem lk_OF_283 : ov_lV "OverFirst" 283 ov_m178 4 := ⟨lb_178, ov_ch5 (List.mem_of_getElem? (i := 44) rfl), ov_ch5 (List.mem_of_getElem? (i := 45) rfl), ov_ch5 (List.mem_of_getElem? (i := 46) rfl)⟩
theorem fl_OF_286 : ov_fl "OverFirst" 286 11 0 := ⟨by decide, by decide, ov_ch1 (List.mem_of_getElem? (i := 80) rfl)⟩
theorem fl_OF_289 : ov_fl "OverFirst" 289 11 1 := ⟨by decide, by decide, ov_ch1 (List.mem_of_getElem? (i := 82) rfl)⟩
theorem fl_OF_292 : ov_fl "OverFirst" 292 9 11 := ⟨by decide, by decide, ov_ch1 (List.mem_of_getElem? (i := 166) rfl)⟩
theorem lb_186 : ov_lB ov_m186 2 := ⟨ov_ch0 (List.mem_of_getElem? (i := 4) rfl), ov_ch5 (List.mem_of_getElem? (i := 86) rfl), ⟨by decide, by decide⟩, by decide +kernel, by decide⟩
theorem lk_OF_295 : ov_lV "OverFirst" 295 ov_m186 2 := ⟨lb_186, ov_ch5 (List.mem_of_getElem? (i := 83) rfl), ov_ch5 (List.mem_of_getElem? (i := 84) rfl), ov_ch5 (List.mem_of_getElem? (i := 85) rfl)⟩
theorem lb_188 : ov_lB ov_m188 2 := ⟨ov_ch0 (List.mem_of_getElem? (i := 8) rfl), ov_ch5 (List.mem_of_getElem? (i := 94) rfl), ⟨by decide, by decide⟩, by decide +kernel, by decide⟩
theorem lk_OF_298 : ov_lV "OverFirst" 298 ov_m188 2 := ⟨lb_188, ov_ch5 (List.mem_of_getElem? (i := 91) rfl), ov_ch5 (List.mem_of_getElem? (i := 92) rfl), ov_ch5 (List.mem_of_getElem? (i := 93) rfl)⟩
theorem fl_OF_302 : ov_fl "OverFirst" 302 12 0 := ⟨by decide, by decide, ov_ch1 (List.mem_of_getElem? (i := 11) rfl)⟩
theorem fl_OF_305 : ov_fl "OverFirst" 305 12 1 := ⟨by decide, by decide, ov_ch1 (List.mem_of_getElem? (i := 13) rfl)⟩
theorem lb_191 : ov_lB ov_m191 2 := ⟨ov_ch0 (List.mem_of_getElem? (i := 8) rfl), ov_ch5 (List.mem_of_getElem? (i := 108) rfl), ⟨by decide, by decide⟩, by decide +kernel, by decide⟩
theorem lk_OF_308 : ov_lV "OverFirst" 308 ov_m191 2 := ⟨lb_191, ov_ch5 (List.mem_of_getElem? (i := 105) rfl), ov_ch5 (List.mem_of_getElem? (i := 106) rfl), ov_ch5 (List.mem_of_getElem? (i := 107) rfl)⟩
theorem lb_193 : ov_lB ov_m193 2 := ⟨ov_ch0 (List.mem_of_getElem? (i := 6) rfl), ov_ch5 (List.mem_of_getElem? (i := 117) rfl), ⟨by decide, by decide⟩, by decide +kernel, by decide⟩
theorem lk_OF_312 : ov_lV "OverFirst" 312 ov_m193 2 := ⟨lb_193, ov_ch5 (List.mem_of_getElem? (i := 114) rfl), ov_ch5 (List.mem_of_getElem? (i := 115) rfl), ov_ch5 (List.mem_of_getElem? (i := 116) rfl)⟩
theorem fl_OF_316 : ov_fl "OverFirst" 316 2 0 := ⟨by decide, by decide, ov_ch0 (List.mem_of_getElem? (i := 188) rfl)⟩
theorem fl_OF_319 : ov_fl "OverFirst" 319 2 1 := ⟨by decide, by decide, ov_ch0 (List.mem_of_getElem? (i := 190) rfl)⟩
theorem lb_197 : ov_lB ov_m197 1 := ⟨ov_ch0 (List.mem_of_getElem? (i := 4) rfl), ov_ch5 (List.mem_of_getElem? (i := 138) rfl), ⟨by decide, by decide⟩, by decide +kernel, by decide⟩
theorem lk_OF_322 : ov_lV "OverFirst" 322 ov_m197 1 := ⟨lb_197, ov_ch5 (List.mem_of_getElem? (i := 135) rfl), ov_ch5 (List.mem_of_getElem? (i := 136) rfl), ov_ch5 (List.mem_of_getElem? (i := 137) rfl)⟩
theorem fl_OF_325 : ov_fl "OverFirst" 325 9 0 := ⟨by decide, by decide, ov_ch1 (List.mem_of_getElem? (i := 117) rfl)⟩
theorem fl_OF_328 : ov_fl "OverFirst" 328 9 1 := ⟨by decide, by decide, ov_ch1 (List.mem_of_getElem? (i := 120) rfl)⟩
theorem fl_OF_331 : ov_fl "OverFirst" 331 9 9 := ⟨by decide, by decide, ov_ch1 (List.mem_of_getElem? (i := 157) rfl)⟩
theorem lb_199 : ov_lB ov_m199 0 := ⟨ov_ch0 (List.mem_of_getElem? (i := 1) rfl), ov_ch5 (List.mem_of_getElem? (i := 147) rfl), ⟨by decide, by decide⟩, by decide +kernel, by decide⟩
theorem lk_OF_334 : ov_lV "OverFirst" 334 ov_m199 0 := ⟨lb_199, ov_ch5 (List.mem_of_getElem? (i := 144) rfl), ov_ch5 (List.mem_of_getElem? (i := 146) rfl), List.mem_of_getElem? (i := 60) rfl⟩
theorem fl_OF_337 : ov_fl "OverFirst" 337 7 4 := ⟨by decide, by decide, ov_ch0 (List.mem_of_getElem? (i := 106) rfl)⟩
theorem fl_OF_340 : ov_fl "OverFirst" 340 7 5 := ⟨by decide, by decide, ov_ch0 (List.mem_of_getElem? (i := 109) rfl)⟩
theorem fl_OF_343 : ov_fl "OverFirst" 343 9 10 := ⟨by decide, by decide, ov_ch1 (List.mem_of_getElem? (i := 163) rfl)⟩
theorem fl_OF_346 : ov_fl "OverFirst" 346 3 0 := ⟨by decide, by decide, ov_ch0 (List.mem_of_getElem? (i := 143) rfl)⟩
theorem kc_OF_349 : Cond.constant "OverFirst" 349 (Int32.ofInt 1000000) ∈ lw_tbl := ov_ch3 (List.mem_of_getElem? (i := 168) rfl)
theorem lb_100 : ov_lB ov_m100 2 := ⟨ov_ch0 (List.mem_of_getElem? (i := 17) rfl), ov_ch3 (List.mem_of_getElem? (i := 179) rfl), ⟨by decide, by decide⟩, by decide +kernel, by decide⟩
theorem lk_OF_350 : ov_lS "OverFirst" 350 ov_m100 2 := ⟨lb_100, ov_ch4 (List.mem_of_getElem? (i := 231) rfl), ov_ch3 (List.mem_of_getElem? (i := 178) rfl)⟩
theorem lb_62 : ov_lB ov_m62 2 := ⟨ov_ch0 (List.mem_of_getElem? (i := 1) rfl), ov_ch3 (List.mem_of_getElem? (i := 7) rfl), ⟨by decide, by decide⟩, by decide +kernel, by decide⟩
theorem lk_OF_355 : ov_lS "OverFirst" 355 ov_m62 2 := ⟨lb_62, ov_ch3 (List.mem_of_getElem? (i := 5) rfl), ov_ch3 (List.mem_of_getElem? (i := 6) rfl)⟩
theorem fl_Mo_1 : ov_fl "OverFirstModel" 1 1 0 := ⟨by decide, by decide, ov_ch5 (List.mem_of_getElem? (i := 194) rfl)⟩
theorem lb_201 : ov_lB ov_m201 1 := ⟨ov_ch0 (List.mem_of_getElem? (i := 14) rfl), ov_ch5 (List.mem_of_getElem? (i := 156) rfl), ⟨by decide, by decide⟩, by decide +kernel, by decide⟩
theorem lk_Mo_7 : ov_lV "OverFirstModel" 7 ov_m201 1 := ⟨lb_201, ov_ch5 (List.mem_of_getElem? (i := 152) rfl), ov_ch5 (List.mem_of_getElem? (i := 154) rfl), List.mem_of_getElem? (i := 61) rfl⟩
theorem fl_Mo_11 : ov_fl "OverFirstModel" 11 1 2 := ⟨by decide, by decide, ov_ch5 (List.mem_of_getElem? (i := 196) rfl)⟩
theorem fl_Mo_14 : ov_fl "OverFirstModel" 14 1 1 := ⟨by decide, by decide, ov_ch5 (List.mem_of_getElem? (i := 195) rfl)⟩
theorem lo_Mo_18 : Cond.methodLink "OverFirstModel" 18 Lib.objectInit ∈ lw_tbl := ov_ch5 (List.mem_of_getElem? (i := 161) rfl)
theorem fl_Mo_24 : ov_fl "OverFirstModel" 24 1 4 := ⟨by decide, by decide, ov_ch5 (List.mem_of_getElem? (i := 198) rfl)⟩
theorem fl_Mo_27 : ov_fl "OverFirstModel" 27 1 5 := ⟨by decide, by decide, ov_ch5 (List.mem_of_getElem? (i := 199) rfl)⟩
theorem fl_Mo_30 : ov_fl "OverFirstModel" 30 1 6 := ⟨by decide, by decide, ov_ch5 (List.mem_of_getElem? (i := 200) rfl)⟩
theorem kc_Mo_34 : Cond.constantLong "OverFirstModel" 34 (Int64.ofInt 1034460) ∈ lw_tbl := ov_ch5 (List.mem_of_getElem? (i := 162) rfl)
theorem kc_Mo_36 : Cond.constantLong "OverFirstModel" 36 (Int64.ofInt 22955708) ∈ lw_tbl := ov_ch5 (List.mem_of_getElem? (i := 163) rfl)
theorem kc_Mo_38 : Cond.constantLong "OverFirstModel" 38 (Int64.ofInt 2793) ∈ lw_tbl := ov_ch5 (List.mem_of_getElem? (i := 164) rfl)
theorem kc_Mo_40 : Cond.constantLong "OverFirstModel" 40 (Int64.ofInt 940952) ∈ lw_tbl := ov_ch5 (List.mem_of_getElem? (i := 165) rfl)
theorem kc_Mo_42 : Cond.constantLong "OverFirstModel" 42 (Int64.ofInt 1166843) ∈ lw_tbl := ov_ch5 (List.mem_of_getElem? (i := 166) rfl)
theorem kc_Mo_44 : Cond.constantLong "OverFirstModel" 44 (Int64.ofInt 25433) ∈ lw_tbl := ov_ch5 (List.mem_of_getElem? (i := 167) rfl)
theorem kc_Mo_46 : Cond.constantLong "OverFirstModel" 46 (Int64.ofInt 979413) ∈ lw_tbl := ov_ch5 (List.mem_of_getElem? (i := 168) rfl)
theorem kc_Mo_48 : Cond.constantLong "OverFirstModel" 48 (Int64.ofInt 941040) ∈ lw_tbl := ov_ch5 (List.mem_of_getElem? (i := 169) rfl)
theorem kc_Mo_50 : Cond.constantLong "OverFirstModel" 50 (Int64.ofInt 6040476) ∈ lw_tbl := ov_ch5 (List.mem_of_getElem? (i := 170) rfl)
theorem kc_Mo_52 : Cond.constantLong "OverFirstModel" 52 (Int64.ofInt 34523964) ∈ lw_tbl := ov_ch5 (List.mem_of_getElem? (i := 171) rfl)
theorem kc_Mo_54 : Cond.constantLong "OverFirstModel" 54 (Int64.ofInt 790116) ∈ lw_tbl := ov_ch5 (List.mem_of_getElem? (i := 172) rfl)
theorem kc_Mo_56 : Cond.constantLong "OverFirstModel" 56 (Int64.ofInt 569) ∈ lw_tbl := ov_ch5 (List.mem_of_getElem? (i := 173) rfl)
theorem kc_Mo_58 : Cond.constantLong "OverFirstModel" 58 (Int64.ofInt 8787) ∈ lw_tbl := ov_ch5 (List.mem_of_getElem? (i := 174) rfl)
theorem kc_Mo_60 : Cond.constantLong "OverFirstModel" 60 (Int64.ofInt 6250976) ∈ lw_tbl := ov_ch5 (List.mem_of_getElem? (i := 175) rfl)
theorem kc_Mo_62 : Cond.constantLong "OverFirstModel" 62 (Int64.ofInt 571827392) ∈ lw_tbl := ov_ch5 (List.mem_of_getElem? (i := 176) rfl)
theorem kc_Mo_64 : Cond.constantLong "OverFirstModel" 64 (Int64.ofInt 179086304) ∈ lw_tbl := ov_ch5 (List.mem_of_getElem? (i := 177) rfl)
theorem kc_Mo_66 : Cond.constantLong "OverFirstModel" 66 (Int64.ofInt 1138236000) ∈ lw_tbl := ov_ch5 (List.mem_of_getElem? (i := 178) rfl)
theorem kc_Mo_68 : Cond.constantLong "OverFirstModel" 68 (Int64.ofInt 19741) ∈ lw_tbl := ov_ch5 (List.mem_of_getElem? (i := 179) rfl)
theorem kc_Mo_70 : Cond.constantLong "OverFirstModel" 70 (Int64.ofInt 1891) ∈ lw_tbl := ov_ch5 (List.mem_of_getElem? (i := 180) rfl)
theorem kc_Mo_72 : Cond.constantLong "OverFirstModel" 72 (Int64.ofInt 573) ∈ lw_tbl := ov_ch5 (List.mem_of_getElem? (i := 181) rfl)
theorem kc_Mo_74 : Cond.constantLong "OverFirstModel" 74 (Int64.ofInt 614923) ∈ lw_tbl := ov_ch5 (List.mem_of_getElem? (i := 182) rfl)
theorem kc_Mo_76 : Cond.constantLong "OverFirstModel" 76 (Int64.ofInt 793) ∈ lw_tbl := ov_ch5 (List.mem_of_getElem? (i := 183) rfl)
theorem fl_Mo_78 : ov_fl "OverFirstModel" 78 1 9 := ⟨by decide, by decide, ov_ch5 (List.mem_of_getElem? (i := 203) rfl)⟩
theorem fl_Mo_81 : ov_fl "OverFirstModel" 81 1 10 := ⟨by decide, by decide, ov_ch5 (List.mem_of_getElem? (i := 204) rfl)⟩
theorem fl_Mo_84 : ov_fl "OverFirstModel" 84 1 11 := ⟨by decide, by decide, ov_ch5 (List.mem_of_getElem? (i := 205) rfl)⟩
theorem fl_Mo_87 : ov_fl "OverFirstModel" 87 1 12 := ⟨by decide, by decide, ov_ch5 (List.mem_of_getElem? (i := 206) rfl)⟩
theorem fl_Mo_90 : ov_fl "OverFirstModel" 90 1 14 := ⟨by decide, by decide, ov_ch5 (List.mem_of_getElem? (i := 208) rfl)⟩
theorem fl_Mo_93 : ov_fl "OverFirstModel" 93 1 16 := ⟨by decide, by decide, ov_ch5 (List.mem_of_getElem? (i := 210) rfl)⟩
theorem fl_Mo_96 : ov_fl "OverFirstModel" 96 1 17 := ⟨by decide, by decide, ov_ch5 (List.mem_of_getElem? (i := 211) rfl)⟩
theorem fl_Mo_99 : ov_fl "OverFirstModel" 99 1 18 := ⟨by decide, by decide, ov_ch5 (List.mem_of_getElem? (i := 212) rfl)⟩
theorem fl_Mo_102 : ov_fl "OverFirstModel" 102 1 19 := ⟨by decide, by decide, ov_ch5 (List.mem_of_getElem? (i := 213) rfl)⟩
theorem fl_Mo_105 : ov_fl "OverFirstModel" 105 1 21 := ⟨by decide, by decide, ov_ch5 (List.mem_of_getElem? (i := 215) rfl)⟩
theorem kc_Mo_109 : Cond.constant "OverFirstModel" 109 (Int32.ofInt 64800) ∈ lw_tbl := ov_ch5 (List.mem_of_getElem? (i := 184) rfl)
theorem fl_Mo_110 : ov_fl "OverFirstModel" 110 1 23 := ⟨by decide, by decide, ov_ch5 (List.mem_of_getElem? (i := 217) rfl)⟩
theorem fl_Mo_113 : ov_fl "OverFirstModel" 113 1 24 := ⟨by decide, by decide, ov_ch5 (List.mem_of_getElem? (i := 218) rfl)⟩
theorem fl_Mo_116 : ov_fl "OverFirstModel" 116 1 26 := ⟨by decide, by decide, ov_ch5 (List.mem_of_getElem? (i := 220) rfl)⟩
theorem fl_Mo_119 : ov_fl "OverFirstModel" 119 1 29 := ⟨by decide, by decide, ov_ch5 (List.mem_of_getElem? (i := 223) rfl)⟩
theorem fl_Mo_122 : ov_fl "OverFirstModel" 122 1 31 := ⟨by decide, by decide, ov_ch5 (List.mem_of_getElem? (i := 225) rfl)⟩
theorem fl_Mo_125 : ov_fl "OverFirstModel" 125 1 32 := ⟨by decide, by decide, ov_ch5 (List.mem_of_getElem? (i := 226) rfl)⟩
theorem kc_Mo_128 : Cond.constant "OverFirstModel" 128 (Int32.ofInt 156000) ∈ lw_tbl := ov_ch5 (List.mem_of_getElem? (i := 185) rfl)
theorem fl_Mo_129 : ov_fl "OverFirstModel" 129 1 36 := ⟨by decide, by decide, ov_ch5 (List.mem_of_getElem? (i := 230) rfl)⟩
theorem fl_Mo_132 : ov_fl "OverFirstModel" 132 1 38 := ⟨by decide, by decide, ov_ch5 (List.mem_of_getElem? (i := 232) rfl)⟩
theorem fl_Mo_135 : ov_fl "OverFirstModel" 135 1 39 := ⟨by decide, by decide, ov_ch5 (List.mem_of_getElem? (i := 233) rfl)⟩
theorem fl_Mo_138 : ov_fl "OverFirstModel" 138 1 40 := ⟨by decide, by decide, ov_ch5 (List.mem_of_getElem? (i := 234) rfl)⟩
theorem fl_Mo_141 : ov_fl "OverFirstModel" 141 1 41 := ⟨by decide, by decide, ov_ch5 (List.mem_of_getElem? (i := 235) rfl)⟩
theorem fl_Mo_144 : ov_fl "OverFirstModel" 144 1 47 := ⟨by decide, by decide, ov_ch6 (List.mem_of_getElem? (i := 1) rfl)⟩
theorem lb_203 : ov_lB ov_m203 1 := ⟨ov_ch0 (List.mem_of_getElem? (i := 14) rfl), ov_ch5 (List.mem_of_getElem? (i := 189) rfl), ⟨by decide, by decide⟩, by decide +kernel, by decide⟩
theorem lk_Mo_147 : ov_lV "OverFirstModel" 147 ov_m203 1 := ⟨lb_203, ov_ch5 (List.mem_of_getElem? (i := 186) rfl), ov_ch5 (List.mem_of_getElem? (i := 188) rfl), List.mem_of_getElem? (i := 62) rfl⟩
theorem lb_204 : ov_lB ov_m204 0 := ⟨ov_ch0 (List.mem_of_getElem? (i := 14) rfl), ov_ch5 (List.mem_of_getElem? (i := 193) rfl), ⟨by decide, by decide⟩, by decide +kernel, by decide⟩
theorem lk_Mo_151 : ov_lV "OverFirstModel" 151 ov_m204 0 := ⟨lb_204, ov_ch5 (List.mem_of_getElem? (i := 190) rfl), ov_ch5 (List.mem_of_getElem? (i := 192) rfl), List.mem_of_getElem? (i := 63) rfl⟩
theorem lb_207 : ov_lB ov_m207 1 := ⟨ov_ch0 (List.mem_of_getElem? (i := 14) rfl), ov_ch6 (List.mem_of_getElem? (i := 109) rfl), ⟨by decide, by decide⟩, by decide +kernel, by decide⟩
theorem lk_Mo_154 : ov_lS "OverFirstModel" 154 ov_m207 1 := ⟨lb_207, ov_ch6 (List.mem_of_getElem? (i := 107) rfl), ov_ch6 (List.mem_of_getElem? (i := 108) rfl)⟩
theorem fl_Mo_158 : ov_fl "OverFirstModel" 158 1 3 := ⟨by decide, by decide, ov_ch5 (List.mem_of_getElem? (i := 197) rfl)⟩
theorem kc_Mo_161 : Cond.constantLong "OverFirstModel" 161 (Int64.ofInt 37) ∈ lw_tbl := ov_ch6 (List.mem_of_getElem? (i := 110) rfl)
theorem lb_208 : ov_lB ov_m208 1 := ⟨ov_ch0 (List.mem_of_getElem? (i := 14) rfl), ov_ch6 (List.mem_of_getElem? (i := 113) rfl), ⟨by decide, by decide⟩, by decide +kernel, by decide⟩
theorem lk_Mo_163 : ov_lS "OverFirstModel" 163 ov_m208 1 := ⟨lb_208, ov_ch6 (List.mem_of_getElem? (i := 111) rfl), ov_ch6 (List.mem_of_getElem? (i := 112) rfl)⟩
theorem lb_209 : ov_lB ov_m209 1 := ⟨ov_ch0 (List.mem_of_getElem? (i := 14) rfl), ov_ch6 (List.mem_of_getElem? (i := 116) rfl), ⟨by decide, by decide⟩, by decide +kernel, by decide⟩
theorem lk_Mo_167 : ov_lS "OverFirstModel" 167 ov_m209 1 := ⟨lb_209, ov_ch6 (List.mem_of_getElem? (i := 114) rfl), ov_ch6 (List.mem_of_getElem? (i := 115) rfl)⟩
theorem kc_Mo_170 : Cond.constantLong "OverFirstModel" 170 (Int64.ofInt 10) ∈ lw_tbl := ov_ch6 (List.mem_of_getElem? (i := 117) rfl)
theorem kc_Mo_172 : Cond.constantLong "OverFirstModel" 172 (Int64.ofInt 48) ∈ lw_tbl := ov_ch6 (List.mem_of_getElem? (i := 118) rfl)
theorem lb_210 : ov_lB ov_m210 1 := ⟨ov_ch0 (List.mem_of_getElem? (i := 14) rfl), ov_ch6 (List.mem_of_getElem? (i := 121) rfl), ⟨by decide, by decide⟩, by decide +kernel, by decide⟩
theorem lk_Mo_174 : ov_lS "OverFirstModel" 174 ov_m210 1 := ⟨lb_210, ov_ch6 (List.mem_of_getElem? (i := 119) rfl), ov_ch6 (List.mem_of_getElem? (i := 120) rfl)⟩
theorem fl_Mo_177 : ov_fl "OverFirstModel" 177 1 7 := ⟨by decide, by decide, ov_ch5 (List.mem_of_getElem? (i := 201) rfl)⟩
theorem fl_Mo_180 : ov_fl "OverFirstModel" 180 1 8 := ⟨by decide, by decide, ov_ch5 (List.mem_of_getElem? (i := 202) rfl)⟩
theorem lb_217 : ov_lB ov_m217 1 := ⟨ov_ch0 (List.mem_of_getElem? (i := 14) rfl), ov_ch6 (List.mem_of_getElem? (i := 149) rfl), ⟨by decide, by decide⟩, by decide +kernel, by decide⟩
theorem lk_Mo_183 : ov_lV "OverFirstModel" 183 ov_m217 1 := ⟨lb_217, ov_ch6 (List.mem_of_getElem? (i := 146) rfl), ov_ch6 (List.mem_of_getElem? (i := 148) rfl), List.mem_of_getElem? (i := 71) rfl⟩
theorem lb_214 : ov_lB ov_m214 1 := ⟨ov_ch0 (List.mem_of_getElem? (i := 14) rfl), ov_ch6 (List.mem_of_getElem? (i := 137) rfl), ⟨by decide, by decide⟩, by decide +kernel, by decide⟩
theorem lk_Mo_186 : ov_lV "OverFirstModel" 186 ov_m214 1 := ⟨lb_214, ov_ch6 (List.mem_of_getElem? (i := 134) rfl), ov_ch6 (List.mem_of_getElem? (i := 136) rfl), List.mem_of_getElem? (i := 68) rfl⟩
theorem lb_213 : ov_lB ov_m213 1 := ⟨ov_ch0 (List.mem_of_getElem? (i := 14) rfl), ov_ch6 (List.mem_of_getElem? (i := 133) rfl), ⟨by decide, by decide⟩, by decide +kernel, by decide⟩
theorem lk_Mo_189 : ov_lV "OverFirstModel" 189 ov_m213 1 := ⟨lb_213, ov_ch6 (List.mem_of_getElem? (i := 130) rfl), ov_ch6 (List.mem_of_getElem? (i := 132) rfl), List.mem_of_getElem? (i := 67) rfl⟩
theorem lb_212 : ov_lB ov_m212 1 := ⟨ov_ch0 (List.mem_of_getElem? (i := 14) rfl), ov_ch6 (List.mem_of_getElem? (i := 129) rfl), ⟨by decide, by decide⟩, by decide +kernel, by decide⟩
theorem lk_Mo_192 : ov_lV "OverFirstModel" 192 ov_m212 1 := ⟨lb_212, ov_ch6 (List.mem_of_getElem? (i := 126) rfl), ov_ch6 (List.mem_of_getElem? (i := 128) rfl), List.mem_of_getElem? (i := 66) rfl⟩
theorem lb_211 : ov_lB ov_m211 1 := ⟨ov_ch0 (List.mem_of_getElem? (i := 14) rfl), ov_ch6 (List.mem_of_getElem? (i := 125) rfl), ⟨by decide, by decide⟩, by decide +kernel, by decide⟩
theorem lk_Mo_195 : ov_lV "OverFirstModel" 195 ov_m211 1 := ⟨lb_211, ov_ch6 (List.mem_of_getElem? (i := 122) rfl), ov_ch6 (List.mem_of_getElem? (i := 124) rfl), List.mem_of_getElem? (i := 65) rfl⟩
theorem lb_215 : ov_lB ov_m215 2 := ⟨ov_ch0 (List.mem_of_getElem? (i := 14) rfl), ov_ch6 (List.mem_of_getElem? (i := 141) rfl), ⟨by decide, by decide⟩, by decide +kernel, by decide⟩
theorem lk_Mo_198 : ov_lV "OverFirstModel" 198 ov_m215 2 := ⟨lb_215, ov_ch6 (List.mem_of_getElem? (i := 138) rfl), ov_ch6 (List.mem_of_getElem? (i := 140) rfl), List.mem_of_getElem? (i := 69) rfl⟩
theorem lb_220 : ov_lB ov_m220 2 := ⟨ov_ch0 (List.mem_of_getElem? (i := 14) rfl), ov_ch6 (List.mem_of_getElem? (i := 161) rfl), ⟨by decide, by decide⟩, by decide +kernel, by decide⟩
theorem lk_Mo_202 : ov_lV "OverFirstModel" 202 ov_m220 2 := ⟨lb_220, ov_ch6 (List.mem_of_getElem? (i := 158) rfl), ov_ch6 (List.mem_of_getElem? (i := 160) rfl), List.mem_of_getElem? (i := 74) rfl⟩
theorem lb_206 : ov_lB ov_m206 0 := ⟨ov_ch0 (List.mem_of_getElem? (i := 14) rfl), ov_ch6 (List.mem_of_getElem? (i := 106) rfl), ⟨by decide, by decide⟩, by decide +kernel, by decide⟩
theorem lk_Mo_205 : ov_lV "OverFirstModel" 205 ov_m206 0 := ⟨lb_206, ov_ch6 (List.mem_of_getElem? (i := 103) rfl), ov_ch6 (List.mem_of_getElem? (i := 105) rfl), List.mem_of_getElem? (i := 64) rfl⟩
theorem fl_Mo_208 : ov_fl "OverFirstModel" 208 1 13 := ⟨by decide, by decide, ov_ch5 (List.mem_of_getElem? (i := 207) rfl)⟩
theorem fl_Mo_211 : ov_fl "OverFirstModel" 211 1 15 := ⟨by decide, by decide, ov_ch5 (List.mem_of_getElem? (i := 209) rfl)⟩
theorem lb_216 : ov_lB ov_m216 1 := ⟨ov_ch0 (List.mem_of_getElem? (i := 14) rfl), ov_ch6 (List.mem_of_getElem? (i := 145) rfl), ⟨by decide, by decide⟩, by decide +kernel, by decide⟩
theorem lk_Mo_214 : ov_lV "OverFirstModel" 214 ov_m216 1 := ⟨lb_216, ov_ch6 (List.mem_of_getElem? (i := 142) rfl), ov_ch6 (List.mem_of_getElem? (i := 144) rfl), List.mem_of_getElem? (i := 70) rfl⟩
theorem lb_218 : ov_lB ov_m218 0 := ⟨ov_ch0 (List.mem_of_getElem? (i := 14) rfl), ov_ch6 (List.mem_of_getElem? (i := 153) rfl), ⟨by decide, by decide⟩, by decide +kernel, by decide⟩
theorem lk_Mo_217 : ov_lV "OverFirstModel" 217 ov_m218 0 := ⟨lb_218, ov_ch6 (List.mem_of_getElem? (i := 150) rfl), ov_ch6 (List.mem_of_getElem? (i := 152) rfl), List.mem_of_getElem? (i := 72) rfl⟩
theorem lb_219 : ov_lB ov_m219 0 := ⟨ov_ch0 (List.mem_of_getElem? (i := 14) rfl), ov_ch6 (List.mem_of_getElem? (i := 157) rfl), ⟨by decide, by decide⟩, by decide +kernel, by decide⟩
theorem lk_Mo_220 : ov_lV "OverFirstModel" 220 ov_m219 0 := ⟨lb_219, ov_ch6 (List.mem_of_getElem? (i := 154) rfl), ov_ch6 (List.mem_of_getElem? (i := 156) rfl), List.mem_of_getElem? (i := 73) rfl⟩
theorem lb_223 : ov_lB ov_m223 0 := ⟨ov_ch0 (List.mem_of_getElem? (i := 14) rfl), ov_ch6 (List.mem_of_getElem? (i := 172) rfl), ⟨by decide, by decide⟩, by decide +kernel, by decide⟩
theorem lk_Mo_223 : ov_lV "OverFirstModel" 223 ov_m223 0 := ⟨lb_223, ov_ch6 (List.mem_of_getElem? (i := 169) rfl), ov_ch6 (List.mem_of_getElem? (i := 171) rfl), List.mem_of_getElem? (i := 76) rfl⟩
theorem lb_224 : ov_lB ov_m224 0 := ⟨ov_ch0 (List.mem_of_getElem? (i := 14) rfl), ov_ch6 (List.mem_of_getElem? (i := 176) rfl), ⟨by decide, by decide⟩, by decide +kernel, by decide⟩
theorem lk_Mo_226 : ov_lV "OverFirstModel" 226 ov_m224 0 := ⟨lb_224, ov_ch6 (List.mem_of_getElem? (i := 173) rfl), ov_ch6 (List.mem_of_getElem? (i := 175) rfl), List.mem_of_getElem? (i := 77) rfl⟩
theorem lb_233 : ov_lB ov_m233 0 := ⟨ov_ch0 (List.mem_of_getElem? (i := 14) rfl), ov_ch6 (List.mem_of_getElem? (i := 212) rfl), ⟨by decide, by decide⟩, by decide +kernel, by decide⟩
theorem lk_Mo_229 : ov_lV "OverFirstModel" 229 ov_m233 0 := ⟨lb_233, ov_ch6 (List.mem_of_getElem? (i := 209) rfl), ov_ch6 (List.mem_of_getElem? (i := 211) rfl), List.mem_of_getElem? (i := 86) rfl⟩
theorem lb_221 : ov_lB ov_m221 3 := ⟨ov_ch0 (List.mem_of_getElem? (i := 14) rfl), ov_ch6 (List.mem_of_getElem? (i := 165) rfl), ⟨by decide, by decide⟩, by decide +kernel, by decide⟩
theorem lk_Mo_232 : ov_lV "OverFirstModel" 232 ov_m221 3 := ⟨lb_221, ov_ch6 (List.mem_of_getElem? (i := 162) rfl), ov_ch6 (List.mem_of_getElem? (i := 164) rfl), List.mem_of_getElem? (i := 75) rfl⟩
theorem lb_222 : ov_lB ov_m222 2 := ⟨ov_ch0 (List.mem_of_getElem? (i := 14) rfl), ov_ch6 (List.mem_of_getElem? (i := 168) rfl), ⟨by decide, by decide⟩, by decide +kernel, by decide⟩
theorem lk_Mo_236 : ov_lS "OverFirstModel" 236 ov_m222 2 := ⟨lb_222, ov_ch6 (List.mem_of_getElem? (i := 166) rfl), ov_ch6 (List.mem_of_getElem? (i := 167) rfl)⟩
theorem lb_225 : ov_lB ov_m225 0 := ⟨ov_ch0 (List.mem_of_getElem? (i := 14) rfl), ov_ch6 (List.mem_of_getElem? (i := 180) rfl), ⟨by decide, by decide⟩, by decide +kernel, by decide⟩
theorem lk_Mo_239 : ov_lV "OverFirstModel" 239 ov_m225 0 := ⟨lb_225, ov_ch6 (List.mem_of_getElem? (i := 177) rfl), ov_ch6 (List.mem_of_getElem? (i := 179) rfl), List.mem_of_getElem? (i := 78) rfl⟩
theorem lb_226 : ov_lB ov_m226 1 := ⟨ov_ch0 (List.mem_of_getElem? (i := 14) rfl), ov_ch6 (List.mem_of_getElem? (i := 184) rfl), ⟨by decide, by decide⟩, by decide +kernel, by decide⟩
theorem lk_Mo_243 : ov_lV "OverFirstModel" 243 ov_m226 1 := ⟨lb_226, ov_ch6 (List.mem_of_getElem? (i := 181) rfl), ov_ch6 (List.mem_of_getElem? (i := 183) rfl), List.mem_of_getElem? (i := 79) rfl⟩
theorem lb_231 : ov_lB ov_m231 2 := ⟨ov_ch0 (List.mem_of_getElem? (i := 14) rfl), ov_ch6 (List.mem_of_getElem? (i := 204) rfl), ⟨by decide, by decide⟩, by decide +kernel, by decide⟩
theorem lk_Mo_246 : ov_lV "OverFirstModel" 246 ov_m231 2 := ⟨lb_231, ov_ch6 (List.mem_of_getElem? (i := 201) rfl), ov_ch6 (List.mem_of_getElem? (i := 203) rfl), List.mem_of_getElem? (i := 84) rfl⟩
theorem lb_235 : ov_lB ov_m235 3 := ⟨ov_ch0 (List.mem_of_getElem? (i := 14) rfl), ov_ch6 (List.mem_of_getElem? (i := 220) rfl), ⟨by decide, by decide⟩, by decide +kernel, by decide⟩
theorem lk_Mo_250 : ov_lV "OverFirstModel" 250 ov_m235 3 := ⟨lb_235, ov_ch6 (List.mem_of_getElem? (i := 217) rfl), ov_ch6 (List.mem_of_getElem? (i := 219) rfl), List.mem_of_getElem? (i := 87) rfl⟩
theorem lb_238 : ov_lB ov_m238 3 := ⟨ov_ch0 (List.mem_of_getElem? (i := 14) rfl), ov_ch6 (List.mem_of_getElem? (i := 232) rfl), ⟨by decide, by decide⟩, by decide +kernel, by decide⟩
theorem lk_Mo_254 : ov_lV "OverFirstModel" 254 ov_m238 3 := ⟨lb_238, ov_ch6 (List.mem_of_getElem? (i := 229) rfl), ov_ch6 (List.mem_of_getElem? (i := 231) rfl), List.mem_of_getElem? (i := 90) rfl⟩
theorem lb_227 : ov_lB ov_m227 1 := ⟨ov_ch0 (List.mem_of_getElem? (i := 14) rfl), ov_ch6 (List.mem_of_getElem? (i := 188) rfl), ⟨by decide, by decide⟩, by decide +kernel, by decide⟩
theorem lk_Mo_257 : ov_lV "OverFirstModel" 257 ov_m227 1 := ⟨lb_227, ov_ch6 (List.mem_of_getElem? (i := 185) rfl), ov_ch6 (List.mem_of_getElem? (i := 187) rfl), List.mem_of_getElem? (i := 80) rfl⟩
theorem lb_228 : ov_lB ov_m228 1 := ⟨ov_ch0 (List.mem_of_getElem? (i := 14) rfl), ov_ch6 (List.mem_of_getElem? (i := 192) rfl), ⟨by decide, by decide⟩, by decide +kernel, by decide⟩
theorem lk_Mo_260 : ov_lV "OverFirstModel" 260 ov_m228 1 := ⟨lb_228, ov_ch6 (List.mem_of_getElem? (i := 189) rfl), ov_ch6 (List.mem_of_getElem? (i := 191) rfl), List.mem_of_getElem? (i := 81) rfl⟩
theorem lb_232 : ov_lB ov_m232 1 := ⟨ov_ch0 (List.mem_of_getElem? (i := 14) rfl), ov_ch6 (List.mem_of_getElem? (i := 208) rfl), ⟨by decide, by decide⟩, by decide +kernel, by decide⟩
theorem lk_Mo_263 : ov_lV "OverFirstModel" 263 ov_m232 1 := ⟨lb_232, ov_ch6 (List.mem_of_getElem? (i := 205) rfl), ov_ch6 (List.mem_of_getElem? (i := 207) rfl), List.mem_of_getElem? (i := 85) rfl⟩
theorem lb_229 : ov_lB ov_m229 1 := ⟨ov_ch0 (List.mem_of_getElem? (i := 14) rfl), ov_ch6 (List.mem_of_getElem? (i := 196) rfl), ⟨by decide, by decide⟩, by decide +kernel, by decide⟩
theorem lk_Mo_266 : ov_lV "OverFirstModel" 266 ov_m229 1 := ⟨lb_229, ov_ch6 (List.mem_of_getElem? (i := 193) rfl), ov_ch6 (List.mem_of_getElem? (i := 195) rfl), List.mem_of_getElem? (i := 82) rfl⟩
theorem lb_230 : ov_lB ov_m230 1 := ⟨ov_ch0 (List.mem_of_getElem? (i := 14) rfl), ov_ch6 (List.mem_of_getElem? (i := 200) rfl), ⟨by decide, by decide⟩, by decide +kernel, by decide⟩
theorem lk_Mo_269 : ov_lV "OverFirstModel" 269 ov_m230 1 := ⟨lb_230, ov_ch6 (List.mem_of_getElem? (i := 197) rfl), ov_ch6 (List.mem_of_getElem? (i := 199) rfl), List.mem_of_getElem? (i := 83) rfl⟩
theorem lb_279 : ov_lB ov_m279 3 := ⟨ov_ch0 (List.mem_of_getElem? (i := 14) rfl), ov_ch7 (List.mem_of_getElem? (i := 156) rfl), ⟨by decide, by decide⟩, by decide +kernel, by decide⟩
theorem lk_Mo_272 : ov_lS "OverFirstModel" 272 ov_m279 3 := ⟨lb_279, ov_ch7 (List.mem_of_getElem? (i := 154) rfl), ov_ch7 (List.mem_of_getElem? (i := 155) rfl)⟩
theorem lb_236 : ov_lB ov_m236 0 := ⟨ov_ch0 (List.mem_of_getElem? (i := 14) rfl), ov_ch6 (List.mem_of_getElem? (i := 224) rfl), ⟨by decide, by decide⟩, by decide +kernel, by decide⟩
theorem lk_Mo_275 : ov_lV "OverFirstModel" 275 ov_m236 0 := ⟨lb_236, ov_ch6 (List.mem_of_getElem? (i := 221) rfl), ov_ch6 (List.mem_of_getElem? (i := 223) rfl), List.mem_of_getElem? (i := 88) rfl⟩
theorem lb_237 : ov_lB ov_m237 0 := ⟨ov_ch0 (List.mem_of_getElem? (i := 14) rfl), ov_ch6 (List.mem_of_getElem? (i := 228) rfl), ⟨by decide, by decide⟩, by decide +kernel, by decide⟩
theorem lk_Mo_279 : ov_lV "OverFirstModel" 279 ov_m237 0 := ⟨lb_237, ov_ch6 (List.mem_of_getElem? (i := 225) rfl), ov_ch6 (List.mem_of_getElem? (i := 227) rfl), List.mem_of_getElem? (i := 89) rfl⟩
theorem lb_242 : ov_lB ov_m242 2 := ⟨ov_ch0 (List.mem_of_getElem? (i := 14) rfl), ov_ch7 (List.mem_of_getElem? (i := 7) rfl), ⟨by decide, by decide⟩, by decide +kernel, by decide⟩
theorem lk_Mo_282 : ov_lV "OverFirstModel" 282 ov_m242 2 := ⟨lb_242, ov_ch7 (List.mem_of_getElem? (i := 4) rfl), ov_ch7 (List.mem_of_getElem? (i := 6) rfl), List.mem_of_getElem? (i := 92) rfl⟩
theorem lb_249 : ov_lB ov_m249 2 := ⟨ov_ch0 (List.mem_of_getElem? (i := 14) rfl), ov_ch7 (List.mem_of_getElem? (i := 36) rfl), ⟨by decide, by decide⟩, by decide +kernel, by decide⟩
theorem lk_Mo_285 : ov_lV "OverFirstModel" 285 ov_m249 2 := ⟨lb_249, ov_ch7 (List.mem_of_getElem? (i := 33) rfl), ov_ch7 (List.mem_of_getElem? (i := 35) rfl), List.mem_of_getElem? (i := 98) rfl⟩
theorem lb_243 : ov_lB ov_m243 3 := ⟨ov_ch0 (List.mem_of_getElem? (i := 14) rfl), ov_ch7 (List.mem_of_getElem? (i := 11) rfl), ⟨by decide, by decide⟩, by decide +kernel, by decide⟩
theorem lk_Mo_289 : ov_lV "OverFirstModel" 289 ov_m243 3 := ⟨lb_243, ov_ch7 (List.mem_of_getElem? (i := 8) rfl), ov_ch7 (List.mem_of_getElem? (i := 10) rfl), List.mem_of_getElem? (i := 93) rfl⟩
theorem lb_250 : ov_lB ov_m250 4 := ⟨ov_ch0 (List.mem_of_getElem? (i := 14) rfl), ov_ch7 (List.mem_of_getElem? (i := 40) rfl), ⟨by decide, by decide⟩, by decide +kernel, by decide⟩
theorem lk_Mo_292 : ov_lV "OverFirstModel" 292 ov_m250 4 := ⟨lb_250, ov_ch7 (List.mem_of_getElem? (i := 37) rfl), ov_ch7 (List.mem_of_getElem? (i := 39) rfl), List.mem_of_getElem? (i := 99) rfl⟩
theorem lb_240 : ov_lB ov_m240 2 := ⟨ov_ch0 (List.mem_of_getElem? (i := 14) rfl), ov_ch7 (List.mem_of_getElem? (i := 0) rfl), ⟨by decide, by decide⟩, by decide +kernel, by decide⟩
theorem lk_Mo_296 : ov_lV "OverFirstModel" 296 ov_m240 2 := ⟨lb_240, ov_ch6 (List.mem_of_getElem? (i := 237) rfl), ov_ch6 (List.mem_of_getElem? (i := 239) rfl), List.mem_of_getElem? (i := 91) rfl⟩
theorem lb_241 : ov_lB ov_m241 3 := ⟨ov_ch0 (List.mem_of_getElem? (i := 14) rfl), ov_ch7 (List.mem_of_getElem? (i := 3) rfl), ⟨by decide, by decide⟩, by decide +kernel, by decide⟩
theorem lk_Mo_299 : ov_lS "OverFirstModel" 299 ov_m241 3 := ⟨lb_241, ov_ch7 (List.mem_of_getElem? (i := 1) rfl), ov_ch7 (List.mem_of_getElem? (i := 2) rfl)⟩
theorem lb_244 : ov_lB ov_m244 2 := ⟨ov_ch0 (List.mem_of_getElem? (i := 14) rfl), ov_ch7 (List.mem_of_getElem? (i := 15) rfl), ⟨by decide, by decide⟩, by decide +kernel, by decide⟩
theorem lk_Mo_302 : ov_lV "OverFirstModel" 302 ov_m244 2 := ⟨lb_244, ov_ch7 (List.mem_of_getElem? (i := 12) rfl), ov_ch7 (List.mem_of_getElem? (i := 14) rfl), List.mem_of_getElem? (i := 94) rfl⟩
theorem kc_Mo_305 : Cond.constant "OverFirstModel" 305 (Int32.ofInt 1000000) ∈ lw_tbl := ov_ch7 (List.mem_of_getElem? (i := 28) rfl)
theorem lb_247 : ov_lB ov_m247 1 := ⟨ov_ch0 (List.mem_of_getElem? (i := 14) rfl), ov_ch7 (List.mem_of_getElem? (i := 27) rfl), ⟨by decide, by decide⟩, by decide +kernel, by decide⟩
theorem lk_Mo_306 : ov_lV "OverFirstModel" 306 ov_m247 1 := ⟨lb_247, ov_ch7 (List.mem_of_getElem? (i := 24) rfl), ov_ch7 (List.mem_of_getElem? (i := 26) rfl), List.mem_of_getElem? (i := 96) rfl⟩
theorem lb_248 : ov_lB ov_m248 3 := ⟨ov_ch0 (List.mem_of_getElem? (i := 14) rfl), ov_ch7 (List.mem_of_getElem? (i := 32) rfl), ⟨by decide, by decide⟩, by decide +kernel, by decide⟩
theorem lk_Mo_309 : ov_lV "OverFirstModel" 309 ov_m248 3 := ⟨lb_248, ov_ch7 (List.mem_of_getElem? (i := 29) rfl), ov_ch7 (List.mem_of_getElem? (i := 31) rfl), List.mem_of_getElem? (i := 97) rfl⟩
theorem lb_246 : ov_lB ov_m246 4 := ⟨ov_ch0 (List.mem_of_getElem? (i := 14) rfl), ov_ch7 (List.mem_of_getElem? (i := 23) rfl), ⟨by decide, by decide⟩, by decide +kernel, by decide⟩
theorem lk_Mo_312 : ov_lV "OverFirstModel" 312 ov_m246 4 := ⟨lb_246, ov_ch7 (List.mem_of_getElem? (i := 20) rfl), ov_ch7 (List.mem_of_getElem? (i := 22) rfl), List.mem_of_getElem? (i := 95) rfl⟩
theorem lb_252 : ov_lB ov_m252 4 := ⟨ov_ch0 (List.mem_of_getElem? (i := 14) rfl), ov_ch7 (List.mem_of_getElem? (i := 48) rfl), ⟨by decide, by decide⟩, by decide +kernel, by decide⟩
theorem lk_Mo_315 : ov_lV "OverFirstModel" 315 ov_m252 4 := ⟨lb_252, ov_ch7 (List.mem_of_getElem? (i := 45) rfl), ov_ch7 (List.mem_of_getElem? (i := 47) rfl), List.mem_of_getElem? (i := 100) rfl⟩
theorem fl_Mo_319 : ov_fl "OverFirstModel" 319 1 20 := ⟨by decide, by decide, ov_ch5 (List.mem_of_getElem? (i := 214) rfl)⟩
theorem fl_Mo_322 : ov_fl "OverFirstModel" 322 1 22 := ⟨by decide, by decide, ov_ch5 (List.mem_of_getElem? (i := 216) rfl)⟩
theorem lb_255 : ov_lB ov_m255 3 := ⟨ov_ch0 (List.mem_of_getElem? (i := 14) rfl), ov_ch7 (List.mem_of_getElem? (i := 60) rfl), ⟨by decide, by decide⟩, by decide +kernel, by decide⟩
theorem lk_Mo_325 : ov_lV "OverFirstModel" 325 ov_m255 3 := ⟨lb_255, ov_ch7 (List.mem_of_getElem? (i := 57) rfl), ov_ch7 (List.mem_of_getElem? (i := 59) rfl), List.mem_of_getElem? (i := 102) rfl⟩
theorem lb_254 : ov_lB ov_m254 0 := ⟨ov_ch0 (List.mem_of_getElem? (i := 14) rfl), ov_ch7 (List.mem_of_getElem? (i := 56) rfl), ⟨by decide, by decide⟩, by decide +kernel, by decide⟩
theorem lk_Mo_329 : ov_lV "OverFirstModel" 329 ov_m254 0 := ⟨lb_254, ov_ch7 (List.mem_of_getElem? (i := 53) rfl), ov_ch7 (List.mem_of_getElem? (i := 55) rfl), List.mem_of_getElem? (i := 101) rfl⟩
theorem lb_256 : ov_lB ov_m256 0 := ⟨ov_ch0 (List.mem_of_getElem? (i := 14) rfl), ov_ch7 (List.mem_of_getElem? (i := 64) rfl), ⟨by decide, by decide⟩, by decide +kernel, by decide⟩
theorem lk_Mo_332 : ov_lV "OverFirstModel" 332 ov_m256 0 := ⟨lb_256, ov_ch7 (List.mem_of_getElem? (i := 61) rfl), ov_ch7 (List.mem_of_getElem? (i := 63) rfl), List.mem_of_getElem? (i := 103) rfl⟩
theorem lb_263 : ov_lB ov_m263 2 := ⟨ov_ch0 (List.mem_of_getElem? (i := 14) rfl), ov_ch7 (List.mem_of_getElem? (i := 92) rfl), ⟨by decide, by decide⟩, by decide +kernel, by decide⟩
theorem lk_Mo_335 : ov_lV "OverFirstModel" 335 ov_m263 2 := ⟨lb_263, ov_ch7 (List.mem_of_getElem? (i := 89) rfl), ov_ch7 (List.mem_of_getElem? (i := 91) rfl), List.mem_of_getElem? (i := 105) rfl⟩
theorem kc_Mo_338 : Cond.constant "OverFirstModel" 338 (Int32.ofInt 2000000000) ∈ lw_tbl := ov_ch7 (List.mem_of_getElem? (i := 93) rfl)
theorem lb_264 : ov_lB ov_m264 4 := ⟨ov_ch0 (List.mem_of_getElem? (i := 14) rfl), ov_ch7 (List.mem_of_getElem? (i := 97) rfl), ⟨by decide, by decide⟩, by decide +kernel, by decide⟩
theorem lk_Mo_339 : ov_lV "OverFirstModel" 339 ov_m264 4 := ⟨lb_264, ov_ch7 (List.mem_of_getElem? (i := 94) rfl), ov_ch7 (List.mem_of_getElem? (i := 96) rfl), List.mem_of_getElem? (i := 106) rfl⟩
theorem lb_262 : ov_lB ov_m262 3 := ⟨ov_ch0 (List.mem_of_getElem? (i := 14) rfl), ov_ch7 (List.mem_of_getElem? (i := 88) rfl), ⟨by decide, by decide⟩, by decide +kernel, by decide⟩
theorem lk_Mo_342 : ov_lV "OverFirstModel" 342 ov_m262 3 := ⟨lb_262, ov_ch7 (List.mem_of_getElem? (i := 85) rfl), ov_ch7 (List.mem_of_getElem? (i := 87) rfl), List.mem_of_getElem? (i := 104) rfl⟩
theorem lb_267 : ov_lB ov_m267 5 := ⟨ov_ch0 (List.mem_of_getElem? (i := 14) rfl), ov_ch7 (List.mem_of_getElem? (i := 109) rfl), ⟨by decide, by decide⟩, by decide +kernel, by decide⟩
theorem lk_Mo_345 : ov_lV "OverFirstModel" 345 ov_m267 5 := ⟨lb_267, ov_ch7 (List.mem_of_getElem? (i := 106) rfl), ov_ch7 (List.mem_of_getElem? (i := 108) rfl), List.mem_of_getElem? (i := 107) rfl⟩
theorem fl_Mo_349 : ov_fl "OverFirstModel" 349 1 27 := ⟨by decide, by decide, ov_ch5 (List.mem_of_getElem? (i := 221) rfl)⟩
theorem fl_Mo_353 : ov_fl "OverFirstModel" 353 1 28 := ⟨by decide, by decide, ov_ch5 (List.mem_of_getElem? (i := 222) rfl)⟩
theorem fl_Mo_356 : ov_fl "OverFirstModel" 356 1 30 := ⟨by decide, by decide, ov_ch5 (List.mem_of_getElem? (i := 224) rfl)⟩
theorem fl_Mo_359 : ov_fl "OverFirstModel" 359 1 25 := ⟨by decide, by decide, ov_ch5 (List.mem_of_getElem? (i := 219) rfl)⟩
theorem lb_273 : ov_lB ov_m273 2 := ⟨ov_ch0 (List.mem_of_getElem? (i := 14) rfl), ov_ch7 (List.mem_of_getElem? (i := 133) rfl), ⟨by decide, by decide⟩, by decide +kernel, by decide⟩
theorem lk_Mo_362 : ov_lV "OverFirstModel" 362 ov_m273 2 := ⟨lb_273, ov_ch7 (List.mem_of_getElem? (i := 130) rfl), ov_ch7 (List.mem_of_getElem? (i := 132) rfl), List.mem_of_getElem? (i := 112) rfl⟩
theorem lb_274 : ov_lB ov_m274 3 := ⟨ov_ch0 (List.mem_of_getElem? (i := 14) rfl), ov_ch7 (List.mem_of_getElem? (i := 137) rfl), ⟨by decide, by decide⟩, by decide +kernel, by decide⟩
theorem lk_Mo_365 : ov_lV "OverFirstModel" 365 ov_m274 3 := ⟨lb_274, ov_ch7 (List.mem_of_getElem? (i := 134) rfl), ov_ch7 (List.mem_of_getElem? (i := 136) rfl), List.mem_of_getElem? (i := 113) rfl⟩
theorem lb_275 : ov_lB ov_m275 4 := ⟨ov_ch0 (List.mem_of_getElem? (i := 14) rfl), ov_ch7 (List.mem_of_getElem? (i := 141) rfl), ⟨by decide, by decide⟩, by decide +kernel, by decide⟩
theorem lk_Mo_368 : ov_lV "OverFirstModel" 368 ov_m275 4 := ⟨lb_275, ov_ch7 (List.mem_of_getElem? (i := 138) rfl), ov_ch7 (List.mem_of_getElem? (i := 140) rfl), List.mem_of_getElem? (i := 114) rfl⟩
theorem lb_276 : ov_lB ov_m276 4 := ⟨ov_ch0 (List.mem_of_getElem? (i := 14) rfl), ov_ch7 (List.mem_of_getElem? (i := 145) rfl), ⟨by decide, by decide⟩, by decide +kernel, by decide⟩
theorem lk_Mo_371 : ov_lV "OverFirstModel" 371 ov_m276 4 := ⟨lb_276, ov_ch7 (List.mem_of_getElem? (i := 142) rfl), ov_ch7 (List.mem_of_getElem? (i := 144) rfl), List.mem_of_getElem? (i := 115) rfl⟩
theorem lb_277 : ov_lB ov_m277 5 := ⟨ov_ch0 (List.mem_of_getElem? (i := 14) rfl), ov_ch7 (List.mem_of_getElem? (i := 149) rfl), ⟨by decide, by decide⟩, by decide +kernel, by decide⟩
theorem lk_Mo_374 : ov_lV "OverFirstModel" 374 ov_m277 5 := ⟨lb_277, ov_ch7 (List.mem_of_getElem? (i := 146) rfl), ov_ch7 (List.mem_of_getElem? (i := 148) rfl), List.mem_of_getElem? (i := 116) rfl⟩
theorem lb_272 : ov_lB ov_m272 3 := ⟨ov_ch0 (List.mem_of_getElem? (i := 14) rfl), ov_ch7 (List.mem_of_getElem? (i := 129) rfl), ⟨by decide, by decide⟩, by decide +kernel, by decide⟩
theorem lk_Mo_377 : ov_lV "OverFirstModel" 377 ov_m272 3 := ⟨lb_272, ov_ch7 (List.mem_of_getElem? (i := 126) rfl), ov_ch7 (List.mem_of_getElem? (i := 128) rfl), List.mem_of_getElem? (i := 111) rfl⟩
theorem lb_278 : ov_lB ov_m278 1 := ⟨ov_ch0 (List.mem_of_getElem? (i := 14) rfl), ov_ch7 (List.mem_of_getElem? (i := 153) rfl), ⟨by decide, by decide⟩, by decide +kernel, by decide⟩
theorem lk_Mo_380 : ov_lV "OverFirstModel" 380 ov_m278 1 := ⟨lb_278, ov_ch7 (List.mem_of_getElem? (i := 150) rfl), ov_ch7 (List.mem_of_getElem? (i := 152) rfl), List.mem_of_getElem? (i := 117) rfl⟩
theorem lb_269 : ov_lB ov_m269 1 := ⟨ov_ch0 (List.mem_of_getElem? (i := 14) rfl), ov_ch7 (List.mem_of_getElem? (i := 117) rfl), ⟨by decide, by decide⟩, by decide +kernel, by decide⟩
theorem lk_Mo_383 : ov_lV "OverFirstModel" 383 ov_m269 1 := ⟨lb_269, ov_ch7 (List.mem_of_getElem? (i := 114) rfl), ov_ch7 (List.mem_of_getElem? (i := 116) rfl), List.mem_of_getElem? (i := 108) rfl⟩
theorem lb_270 : ov_lB ov_m270 3 := ⟨ov_ch0 (List.mem_of_getElem? (i := 14) rfl), ov_ch7 (List.mem_of_getElem? (i := 121) rfl), ⟨by decide, by decide⟩, by decide +kernel, by decide⟩
theorem lk_Mo_386 : ov_lV "OverFirstModel" 386 ov_m270 3 := ⟨lb_270, ov_ch7 (List.mem_of_getElem? (i := 118) rfl), ov_ch7 (List.mem_of_getElem? (i := 120) rfl), List.mem_of_getElem? (i := 109) rfl⟩
theorem lb_271 : ov_lB ov_m271 4 := ⟨ov_ch0 (List.mem_of_getElem? (i := 14) rfl), ov_ch7 (List.mem_of_getElem? (i := 125) rfl), ⟨by decide, by decide⟩, by decide +kernel, by decide⟩
theorem lk_Mo_389 : ov_lV "OverFirstModel" 389 ov_m271 4 := ⟨lb_271, ov_ch7 (List.mem_of_getElem? (i := 122) rfl), ov_ch7 (List.mem_of_getElem? (i := 124) rfl), List.mem_of_getElem? (i := 110) rfl⟩
theorem lb_285 : ov_lB ov_m285 1 := ⟨ov_ch0 (List.mem_of_getElem? (i := 14) rfl), ov_ch7 (List.mem_of_getElem? (i := 180) rfl), ⟨by decide, by decide⟩, by decide +kernel, by decide⟩
theorem lk_Mo_393 : ov_lV "OverFirstModel" 393 ov_m285 1 := ⟨lb_285, ov_ch7 (List.mem_of_getElem? (i := 177) rfl), ov_ch7 (List.mem_of_getElem? (i := 179) rfl), List.mem_of_getElem? (i := 118) rfl⟩
theorem lb_283 : ov_lB ov_m283 3 := ⟨ov_ch0 (List.mem_of_getElem? (i := 14) rfl), ov_ch7 (List.mem_of_getElem? (i := 172) rfl), ⟨by decide, by decide⟩, by decide +kernel, by decide⟩
theorem lk_Mo_396 : ov_lV "OverFirstModel" 396 ov_m283 3 := ⟨lb_283, ov_ch7 (List.mem_of_getElem? (i := 181) rfl), ov_ch7 (List.mem_of_getElem? (i := 170) rfl), ov_ch7 (List.mem_of_getElem? (i := 171) rfl)⟩
theorem fl_Mo_399 : ov_fl "OverFirstModel" 399 1 34 := ⟨by decide, by decide, ov_ch5 (List.mem_of_getElem? (i := 228) rfl)⟩
theorem fl_Mo_402 : ov_fl "OverFirstModel" 402 1 35 := ⟨by decide, by decide, ov_ch5 (List.mem_of_getElem? (i := 229) rfl)⟩
theorem fl_Mo_405 : ov_fl "OverFirstModel" 405 1 33 := ⟨by decide, by decide, ov_ch5 (List.mem_of_getElem? (i := 227) rfl)⟩
theorem lb_287 : ov_lB ov_m287 3 := ⟨ov_ch0 (List.mem_of_getElem? (i := 14) rfl), ov_ch7 (List.mem_of_getElem? (i := 189) rfl), ⟨by decide, by decide⟩, by decide +kernel, by decide⟩
theorem lk_Mo_408 : ov_lV "OverFirstModel" 408 ov_m287 3 := ⟨lb_287, ov_ch7 (List.mem_of_getElem? (i := 186) rfl), ov_ch7 (List.mem_of_getElem? (i := 188) rfl), List.mem_of_getElem? (i := 119) rfl⟩
theorem lb_291 : ov_lB ov_m291 0 := ⟨ov_ch0 (List.mem_of_getElem? (i := 14) rfl), ov_ch7 (List.mem_of_getElem? (i := 205) rfl), ⟨by decide, by decide⟩, by decide +kernel, by decide⟩
theorem lk_Mo_411 : ov_lV "OverFirstModel" 411 ov_m291 0 := ⟨lb_291, ov_ch7 (List.mem_of_getElem? (i := 202) rfl), ov_ch7 (List.mem_of_getElem? (i := 204) rfl), List.mem_of_getElem? (i := 122) rfl⟩
theorem lb_290 : ov_lB ov_m290 0 := ⟨ov_ch0 (List.mem_of_getElem? (i := 14) rfl), ov_ch7 (List.mem_of_getElem? (i := 201) rfl), ⟨by decide, by decide⟩, by decide +kernel, by decide⟩
theorem lk_Mo_414 : ov_lV "OverFirstModel" 414 ov_m290 0 := ⟨lb_290, ov_ch7 (List.mem_of_getElem? (i := 198) rfl), ov_ch7 (List.mem_of_getElem? (i := 200) rfl), List.mem_of_getElem? (i := 121) rfl⟩
theorem lb_292 : ov_lB ov_m292 0 := ⟨ov_ch0 (List.mem_of_getElem? (i := 14) rfl), ov_ch7 (List.mem_of_getElem? (i := 209) rfl), ⟨by decide, by decide⟩, by decide +kernel, by decide⟩
theorem lk_Mo_417 : ov_lV "OverFirstModel" 417 ov_m292 0 := ⟨lb_292, ov_ch7 (List.mem_of_getElem? (i := 206) rfl), ov_ch7 (List.mem_of_getElem? (i := 208) rfl), List.mem_of_getElem? (i := 123) rfl⟩
theorem lb_293 : ov_lB ov_m293 4 := ⟨ov_ch0 (List.mem_of_getElem? (i := 14) rfl), ov_ch7 (List.mem_of_getElem? (i := 213) rfl), ⟨by decide, by decide⟩, by decide +kernel, by decide⟩
theorem lk_Mo_420 : ov_lV "OverFirstModel" 420 ov_m293 4 := ⟨lb_293, ov_ch7 (List.mem_of_getElem? (i := 210) rfl), ov_ch7 (List.mem_of_getElem? (i := 212) rfl), List.mem_of_getElem? (i := 124) rfl⟩
theorem lb_294 : ov_lB ov_m294 1 := ⟨ov_ch0 (List.mem_of_getElem? (i := 14) rfl), ov_ch7 (List.mem_of_getElem? (i := 217) rfl), ⟨by decide, by decide⟩, by decide +kernel, by decide⟩
theorem lk_Mo_423 : ov_lV "OverFirstModel" 423 ov_m294 1 := ⟨lb_294, ov_ch7 (List.mem_of_getElem? (i := 214) rfl), ov_ch7 (List.mem_of_getElem? (i := 216) rfl), List.mem_of_getElem? (i := 125) rfl⟩
theorem fl_Mo_426 : ov_fl "OverFirstModel" 426 1 37 := ⟨by decide, by decide, ov_ch5 (List.mem_of_getElem? (i := 231) rfl)⟩
theorem lb_289 : ov_lB ov_m289 3 := ⟨ov_ch0 (List.mem_of_getElem? (i := 14) rfl), ov_ch7 (List.mem_of_getElem? (i := 197) rfl), ⟨by decide, by decide⟩, by decide +kernel, by decide⟩
theorem lk_Mo_429 : ov_lV "OverFirstModel" 429 ov_m289 3 := ⟨lb_289, ov_ch7 (List.mem_of_getElem? (i := 194) rfl), ov_ch7 (List.mem_of_getElem? (i := 196) rfl), List.mem_of_getElem? (i := 120) rfl⟩
theorem kc_Mo_432 : Cond.constant "OverFirstModel" 432 (Int32.ofInt 100000) ∈ lw_tbl := ov_ch7 (List.mem_of_getElem? (i := 218) rfl)
theorem kc_Mo_433 : Cond.constantLong "OverFirstModel" 433 (Int64.ofInt (-1)) ∈ lw_tbl := ov_ch7 (List.mem_of_getElem? (i := 227) rfl)
theorem lb_300 : ov_lB ov_m300 1 := ⟨ov_ch0 (List.mem_of_getElem? (i := 14) rfl), ov_ch8 (List.mem_of_getElem? (i := 1) rfl), ⟨by decide, by decide⟩, by decide +kernel, by decide⟩
theorem lk_Mo_435 : ov_lS "OverFirstModel" 435 ov_m300 1 := ⟨lb_300, ov_ch7 (List.mem_of_getElem? (i := 239) rfl), ov_ch8 (List.mem_of_getElem? (i := 0) rfl)⟩
theorem fl_Mo_439 : ov_fl "OverFirstModel" 439 1 42 := ⟨by decide, by decide, ov_ch5 (List.mem_of_getElem? (i := 236) rfl)⟩
theorem lb_299 : ov_lB ov_m299 6 := ⟨ov_ch0 (List.mem_of_getElem? (i := 14) rfl), ov_ch7 (List.mem_of_getElem? (i := 238) rfl), ⟨by decide, by decide⟩, by decide +kernel, by decide⟩
theorem lk_Mo_442 : ov_lV "OverFirstModel" 442 ov_m299 6 := ⟨lb_299, ov_ch7 (List.mem_of_getElem? (i := 235) rfl), ov_ch7 (List.mem_of_getElem? (i := 237) rfl), List.mem_of_getElem? (i := 126) rfl⟩
theorem lb_298 : ov_lB ov_m298 3 := ⟨ov_ch0 (List.mem_of_getElem? (i := 14) rfl), ov_ch7 (List.mem_of_getElem? (i := 234) rfl), ⟨by decide, by decide⟩, by decide +kernel, by decide⟩
theorem lk_Mo_446 : ov_lS "OverFirstModel" 446 ov_m298 3 := ⟨lb_298, ov_ch7 (List.mem_of_getElem? (i := 232) rfl), ov_ch7 (List.mem_of_getElem? (i := 233) rfl)⟩
theorem lb_305 : ov_lB ov_m305 4 := ⟨ov_ch0 (List.mem_of_getElem? (i := 14) rfl), ov_ch8 (List.mem_of_getElem? (i := 21) rfl), ⟨by decide, by decide⟩, by decide +kernel, by decide⟩
theorem lk_Mo_450 : ov_lV "OverFirstModel" 450 ov_m305 4 := ⟨lb_305, ov_ch8 (List.mem_of_getElem? (i := 18) rfl), ov_ch8 (List.mem_of_getElem? (i := 20) rfl), List.mem_of_getElem? (i := 128) rfl⟩
theorem lb_306 : ov_lB ov_m306 3 := ⟨ov_ch0 (List.mem_of_getElem? (i := 14) rfl), ov_ch8 (List.mem_of_getElem? (i := 25) rfl), ⟨by decide, by decide⟩, by decide +kernel, by decide⟩
theorem lk_Mo_453 : ov_lV "OverFirstModel" 453 ov_m306 3 := ⟨lb_306, ov_ch8 (List.mem_of_getElem? (i := 22) rfl), ov_ch8 (List.mem_of_getElem? (i := 24) rfl), List.mem_of_getElem? (i := 129) rfl⟩
theorem lb_304 : ov_lB ov_m304 6 := ⟨ov_ch0 (List.mem_of_getElem? (i := 14) rfl), ov_ch8 (List.mem_of_getElem? (i := 17) rfl), ⟨by decide, by decide⟩, by decide +kernel, by decide⟩
theorem lk_Mo_457 : ov_lV "OverFirstModel" 457 ov_m304 6 := ⟨lb_304, ov_ch8 (List.mem_of_getElem? (i := 14) rfl), ov_ch8 (List.mem_of_getElem? (i := 16) rfl), List.mem_of_getElem? (i := 127) rfl⟩
theorem fl_Mo_461 : ov_fl "OverFirstModel" 461 1 43 := ⟨by decide, by decide, ov_ch5 (List.mem_of_getElem? (i := 237) rfl)⟩
theorem fl_Mo_465 : ov_fl "OverFirstModel" 465 1 44 := ⟨by decide, by decide, ov_ch5 (List.mem_of_getElem? (i := 238) rfl)⟩
theorem fl_Mo_468 : ov_fl "OverFirstModel" 468 1 45 := ⟨by decide, by decide, ov_ch5 (List.mem_of_getElem? (i := 239) rfl)⟩
theorem fl_Mo_471 : ov_fl "OverFirstModel" 471 1 46 := ⟨by decide, by decide, ov_ch6 (List.mem_of_getElem? (i := 0) rfl)⟩
theorem kc_Mo_474 : Cond.constantLong "OverFirstModel" 474 (Int64.ofInt 1103515245) ∈ lw_tbl := ov_ch8 (List.mem_of_getElem? (i := 38) rfl)
theorem kc_Mo_476 : Cond.constantLong "OverFirstModel" 476 (Int64.ofInt 12345) ∈ lw_tbl := ov_ch8 (List.mem_of_getElem? (i := 39) rfl)
theorem kc_Mo_478 : Cond.constantLong "OverFirstModel" 478 (Int64.ofInt 2147483648) ∈ lw_tbl := ov_ch8 (List.mem_of_getElem? (i := 40) rfl)
theorem kc_Mo_480 : Cond.constantLong "OverFirstModel" 480 (Int64.ofInt 65536) ∈ lw_tbl := ov_ch8 (List.mem_of_getElem? (i := 41) rfl)
theorem lb_309 : ov_lB ov_m309 1 := ⟨ov_ch0 (List.mem_of_getElem? (i := 14) rfl), ov_ch8 (List.mem_of_getElem? (i := 37) rfl), ⟨by decide, by decide⟩, by decide +kernel, by decide⟩
theorem lk_Mo_482 : ov_lV "OverFirstModel" 482 ov_m309 1 := ⟨lb_309, ov_ch8 (List.mem_of_getElem? (i := 34) rfl), ov_ch8 (List.mem_of_getElem? (i := 36) rfl), List.mem_of_getElem? (i := 131) rfl⟩
theorem lb_308 : ov_lB ov_m308 0 := ⟨ov_ch0 (List.mem_of_getElem? (i := 14) rfl), ov_ch8 (List.mem_of_getElem? (i := 33) rfl), ⟨by decide, by decide⟩, by decide +kernel, by decide⟩
theorem lk_Mo_485 : ov_lV "OverFirstModel" 485 ov_m308 0 := ⟨lb_308, ov_ch8 (List.mem_of_getElem? (i := 30) rfl), ov_ch8 (List.mem_of_getElem? (i := 32) rfl), List.mem_of_getElem? (i := 130) rfl⟩
theorem lb_310 : ov_lB ov_m310 0 := ⟨ov_ch0 (List.mem_of_getElem? (i := 14) rfl), ov_ch8 (List.mem_of_getElem? (i := 45) rfl), ⟨by decide, by decide⟩, by decide +kernel, by decide⟩
theorem lk_Mo_488 : ov_lV "OverFirstModel" 488 ov_m310 0 := ⟨lb_310, ov_ch8 (List.mem_of_getElem? (i := 42) rfl), ov_ch8 (List.mem_of_getElem? (i := 44) rfl), List.mem_of_getElem? (i := 132) rfl⟩
theorem lo_Goers_3 : Cond.methodLink "OverFirst$Goers" 3 Lib.objectInit ∈ lw_tbl := ov_ch0 (List.mem_of_getElem? (i := 169) rfl)
theorem nl_Goers_9 : ov_nl "OverFirst$Goers" 9 4 := ⟨by decide, ov_ch0 (List.mem_of_getElem? (i := 170) rfl), ov_ch0 (List.mem_of_getElem? (i := 171) rfl), ov_ch0 (List.mem_of_getElem? (i := 7) rfl)⟩
theorem lb_7 : ov_lB ov_m7 0 := ⟨ov_ch0 (List.mem_of_getElem? (i := 7) rfl), ov_ch0 (List.mem_of_getElem? (i := 174) rfl), ⟨by decide, by decide⟩, by decide +kernel, by decide⟩
theorem lk_Goers_11 : ov_lIN "OverFirst$Goers" 11 ov_m7 0 := ⟨lb_7, ov_ch0 (List.mem_of_getElem? (i := 172) rfl), ov_ch0 (List.mem_of_getElem? (i := 173) rfl), rfl⟩
theorem fl_Goers_12 : ov_fl "OverFirst$Goers" 12 2 2 := ⟨by decide, by decide, ov_ch0 (List.mem_of_getElem? (i := 191) rfl)⟩
theorem fl_Goers_18 : ov_fl "OverFirst$Goers" 18 2 3 := ⟨by decide, by decide, ov_ch0 (List.mem_of_getElem? (i := 192) rfl)⟩
theorem fl_Goers_21 : ov_fl "OverFirst$Goers" 21 2 4 := ⟨by decide, by decide, ov_ch0 (List.mem_of_getElem? (i := 193) rfl)⟩
theorem fl_Goers_25 : ov_fl "OverFirst$Goers" 25 2 5 := ⟨by decide, by decide, ov_ch0 (List.mem_of_getElem? (i := 194) rfl)⟩
theorem fl_Goers_28 : ov_fl "OverFirst$Goers" 28 2 6 := ⟨by decide, by decide, ov_ch0 (List.mem_of_getElem? (i := 195) rfl)⟩
theorem fl_Goers_31 : ov_fl "OverFirst$Goers" 31 2 7 := ⟨by decide, by decide, ov_ch0 (List.mem_of_getElem? (i := 196) rfl)⟩
theorem fl_Goers_35 : ov_fl "OverFirst$Goers" 35 2 9 := ⟨by decide, by decide, ov_ch0 (List.mem_of_getElem? (i := 198) rfl)⟩
theorem fl_Goers_39 : ov_fl "OverFirst$Goers" 39 2 10 := ⟨by decide, by decide, ov_ch0 (List.mem_of_getElem? (i := 199) rfl)⟩
theorem fl_Goers_43 : ov_fl "OverFirst$Goers" 43 2 11 := ⟨by decide, by decide, ov_ch0 (List.mem_of_getElem? (i := 200) rfl)⟩
theorem fl_Goers_46 : ov_fl "OverFirst$Goers" 46 2 8 := ⟨by decide, by decide, ov_ch0 (List.mem_of_getElem? (i := 197) rfl)⟩
theorem fl_Goers_50 : ov_fl "OverFirst$Goers" 50 2 12 := ⟨by decide, by decide, ov_ch0 (List.mem_of_getElem? (i := 201) rfl)⟩
theorem lk_Goers_53 : ov_lV "OverFirst$Goers" 53 ov_m115 0 := ⟨lb_115, ov_ch4 (List.mem_of_getElem? (i := 39) rfl), ov_ch4 (List.mem_of_getElem? (i := 1) rfl), ov_ch4 (List.mem_of_getElem? (i := 2) rfl)⟩
theorem fl_Goers_59 : ov_fl "OverFirst$Goers" 59 2 13 := ⟨by decide, by decide, ov_ch0 (List.mem_of_getElem? (i := 202) rfl)⟩
theorem fl_Goers_61 : ov_fl "OverFirst$Goers" 61 9 7 := ⟨by decide, by decide, ov_ch1 (List.mem_of_getElem? (i := 146) rfl)⟩
theorem fl_Goers_64 : ov_fl "OverFirst$Goers" 64 2 14 := ⟨by decide, by decide, ov_ch0 (List.mem_of_getElem? (i := 203) rfl)⟩
theorem fl_Goers_67 : ov_fl "OverFirst$Goers" 67 9 10 := ⟨by decide, by decide, ov_ch1 (List.mem_of_getElem? (i := 160) rfl)⟩
theorem lb_124 : ov_lB ov_m124 1 := ⟨ov_ch0 (List.mem_of_getElem? (i := 7) rfl), ov_ch4 (List.mem_of_getElem? (i := 43) rfl), ⟨by decide, by decide⟩, by decide +kernel, by decide⟩
theorem lk_Goers_70 : ov_lV "OverFirst$Goers" 70 ov_m124 1 := ⟨lb_124, ov_ch4 (List.mem_of_getElem? (i := 40) rfl), ov_ch4 (List.mem_of_getElem? (i := 41) rfl), ov_ch4 (List.mem_of_getElem? (i := 42) rfl)⟩
theorem lb_125 : ov_lB ov_m125 0 := ⟨ov_ch0 (List.mem_of_getElem? (i := 6) rfl), ov_ch4 (List.mem_of_getElem? (i := 49) rfl), ⟨by decide, by decide⟩, by decide +kernel, by decide⟩
theorem lk_Goers_74 : ov_lV "OverFirst$Goers" 74 ov_m125 0 := ⟨lb_125, ov_ch4 (List.mem_of_getElem? (i := 46) rfl), ov_ch4 (List.mem_of_getElem? (i := 48) rfl), List.mem_of_getElem? (i := 34) rfl⟩
theorem lb_20 : ov_lB ov_m20 1 := ⟨ov_ch0 (List.mem_of_getElem? (i := 11) rfl), ov_ch2 (List.mem_of_getElem? (i := 28) rfl), ⟨by decide, by decide⟩, by decide +kernel, by decide⟩
theorem lk_Goers_77 : ov_lV "OverFirst$Goers" 77 ov_m20 1 := ⟨lb_20, ov_ch4 (List.mem_of_getElem? (i := 50) rfl), ov_ch2 (List.mem_of_getElem? (i := 26) rfl), ov_ch2 (List.mem_of_getElem? (i := 27) rfl)⟩
theorem lk_Goers_81 : ov_lV "OverFirst$Goers" 81 ov_m126 1 := ⟨lb_126, ov_ch4 (List.mem_of_getElem? (i := 51) rfl), ov_ch4 (List.mem_of_getElem? (i := 52) rfl), ov_ch4 (List.mem_of_getElem? (i := 53) rfl)⟩
theorem fl_Goers_84 : ov_fl "OverFirst$Goers" 84 9 3 := ⟨by decide, by decide, ov_ch1 (List.mem_of_getElem? (i := 128) rfl)⟩
theorem lk_Goers_87 : ov_lV "OverFirst$Goers" 87 ov_m98 2 := ⟨lb_98, ov_ch4 (List.mem_of_getElem? (i := 55) rfl), ov_ch3 (List.mem_of_getElem? (i := 170) rfl), ov_ch3 (List.mem_of_getElem? (i := 171) rfl)⟩
theorem lk_Goers_91 : ov_lV "OverFirst$Goers" 91 ov_m91 2 := ⟨lb_91, ov_ch4 (List.mem_of_getElem? (i := 56) rfl), ov_ch3 (List.mem_of_getElem? (i := 142) rfl), ov_ch3 (List.mem_of_getElem? (i := 143) rfl)⟩
theorem lb_61 : ov_lB ov_m61 2 := ⟨ov_ch0 (List.mem_of_getElem? (i := 1) rfl), ov_ch3 (List.mem_of_getElem? (i := 4) rfl), ⟨by decide, by decide⟩, by decide +kernel, by decide⟩
theorem lk_Goers_95 : ov_lSN "OverFirst$Goers" 95 ov_m61 2 := ⟨lb_61, ov_ch4 (List.mem_of_getElem? (i := 57) rfl), ov_ch3 (List.mem_of_getElem? (i := 3) rfl)⟩
theorem fl_Goers_98 : ov_fl "OverFirst$Goers" 98 9 2 := ⟨by decide, by decide, ov_ch1 (List.mem_of_getElem? (i := 122) rfl)⟩
theorem lb_128 : ov_lB ov_m128 2 := ⟨ov_ch0 (List.mem_of_getElem? (i := 7) rfl), ov_ch4 (List.mem_of_getElem? (i := 65) rfl), ⟨by decide, by decide⟩, by decide +kernel, by decide⟩
theorem lk_Goers_101 : ov_lV "OverFirst$Goers" 101 ov_m128 2 := ⟨lb_128, ov_ch4 (List.mem_of_getElem? (i := 62) rfl), ov_ch4 (List.mem_of_getElem? (i := 63) rfl), ov_ch4 (List.mem_of_getElem? (i := 64) rfl)⟩
theorem lb_129 : ov_lB ov_m129 1 := ⟨ov_ch0 (List.mem_of_getElem? (i := 7) rfl), ov_ch4 (List.mem_of_getElem? (i := 69) rfl), ⟨by decide, by decide⟩, by decide +kernel, by decide⟩
theorem lk_Goers_104 : ov_lV "OverFirst$Goers" 104 ov_m129 1 := ⟨lb_129, ov_ch4 (List.mem_of_getElem? (i := 66) rfl), ov_ch4 (List.mem_of_getElem? (i := 67) rfl), ov_ch4 (List.mem_of_getElem? (i := 68) rfl)⟩
theorem lb_130 : ov_lB ov_m130 2 := ⟨ov_ch0 (List.mem_of_getElem? (i := 6) rfl), ov_ch4 (List.mem_of_getElem? (i := 73) rfl), ⟨by decide, by decide⟩, by decide +kernel, by decide⟩
theorem lk_Goers_108 : ov_lV "OverFirst$Goers" 108 ov_m130 2 := ⟨lb_130, ov_ch4 (List.mem_of_getElem? (i := 70) rfl), ov_ch4 (List.mem_of_getElem? (i := 72) rfl), List.mem_of_getElem? (i := 35) rfl⟩
theorem lb_135 : ov_lB ov_m135 2 := ⟨ov_ch0 (List.mem_of_getElem? (i := 6) rfl), ov_ch4 (List.mem_of_getElem? (i := 96) rfl), ⟨by decide, by decide⟩, by decide +kernel, by decide⟩
theorem lk_Goers_111 : ov_lV "OverFirst$Goers" 111 ov_m135 2 := ⟨lb_135, ov_ch4 (List.mem_of_getElem? (i := 93) rfl), ov_ch4 (List.mem_of_getElem? (i := 95) rfl), List.mem_of_getElem? (i := 39) rfl⟩
theorem lk_Goers_114 : ov_lV "OverFirst$Goers" 114 ov_m99 3 := ⟨lb_99, ov_ch4 (List.mem_of_getElem? (i := 116) rfl), ov_ch3 (List.mem_of_getElem? (i := 174) rfl), ov_ch3 (List.mem_of_getElem? (i := 175) rfl)⟩
theorem lb_136 : ov_lB ov_m136 4 := ⟨ov_ch0 (List.mem_of_getElem? (i := 6) rfl), ov_ch4 (List.mem_of_getElem? (i := 100) rfl), ⟨by decide, by decide⟩, by decide +kernel, by decide⟩
theorem lk_Goers_118 : ov_lV "OverFirst$Goers" 118 ov_m136 4 := ⟨lb_136, ov_ch4 (List.mem_of_getElem? (i := 97) rfl), ov_ch4 (List.mem_of_getElem? (i := 99) rfl), List.mem_of_getElem? (i := 40) rfl⟩
theorem lb_141 : ov_lB ov_m141 3 := ⟨ov_ch0 (List.mem_of_getElem? (i := 7) rfl), ov_ch4 (List.mem_of_getElem? (i := 120) rfl), ⟨by decide, by decide⟩, by decide +kernel, by decide⟩
theorem lk_Goers_122 : ov_lV "OverFirst$Goers" 122 ov_m141 3 := ⟨lb_141, ov_ch4 (List.mem_of_getElem? (i := 117) rfl), ov_ch4 (List.mem_of_getElem? (i := 118) rfl), ov_ch4 (List.mem_of_getElem? (i := 119) rfl)⟩
theorem fl_Goers_126 : ov_fl "OverFirst$Goers" 126 9 5 := ⟨by decide, by decide, ov_ch1 (List.mem_of_getElem? (i := 137) rfl)⟩
theorem lb_34 : ov_lB ov_m34 2 := ⟨ov_ch0 (List.mem_of_getElem? (i := 17) rfl), ov_ch2 (List.mem_of_getElem? (i := 129) rfl), ⟨by decide, by decide⟩, by decide +kernel, by decide⟩
theorem lk_Goers_129 : ov_lS "OverFirst$Goers" 129 ov_m34 2 := ⟨lb_34, ov_ch4 (List.mem_of_getElem? (i := 91) rfl), ov_ch2 (List.mem_of_getElem? (i := 128) rfl)⟩
theorem lb_131 : ov_lB ov_m131 4 := ⟨ov_ch0 (List.mem_of_getElem? (i := 6) rfl), ov_ch4 (List.mem_of_getElem? (i := 77) rfl), ⟨by decide, by decide⟩, by decide +kernel, by decide⟩
theorem lk_Goers_134 : ov_lV "OverFirst$Goers" 134 ov_m131 4 := ⟨lb_131, ov_ch4 (List.mem_of_getElem? (i := 74) rfl), ov_ch4 (List.mem_of_getElem? (i := 76) rfl), List.mem_of_getElem? (i := 36) rfl⟩
theorem lb_132 : ov_lB ov_m132 5 := ⟨ov_ch0 (List.mem_of_getElem? (i := 6) rfl), ov_ch4 (List.mem_of_getElem? (i := 82) rfl), ⟨by decide, by decide⟩, by decide +kernel, by decide⟩
theorem lk_Goers_137 : ov_lV "OverFirst$Goers" 137 ov_m132 5 := ⟨lb_132, ov_ch4 (List.mem_of_getElem? (i := 79) rfl), ov_ch4 (List.mem_of_getElem? (i := 81) rfl), List.mem_of_getElem? (i := 37) rfl⟩
theorem lb_133 : ov_lB ov_m133 1 := ⟨ov_ch0 (List.mem_of_getElem? (i := 6) rfl), ov_ch4 (List.mem_of_getElem? (i := 86) rfl), ⟨by decide, by decide⟩, by decide +kernel, by decide⟩
theorem lk_Goers_141 : ov_lV "OverFirst$Goers" 141 ov_m133 1 := ⟨lb_133, ov_ch4 (List.mem_of_getElem? (i := 83) rfl), ov_ch4 (List.mem_of_getElem? (i := 85) rfl), List.mem_of_getElem? (i := 38) rfl⟩
theorem lb_118 : ov_lB ov_m118 2 := ⟨ov_ch0 (List.mem_of_getElem? (i := 1) rfl), ov_ch4 (List.mem_of_getElem? (i := 17) rfl), ⟨by decide, by decide⟩, by decide +kernel, by decide⟩
theorem lk_Goers_144 : ov_lSN "OverFirst$Goers" 144 ov_m118 2 := ⟨lb_118, ov_ch4 (List.mem_of_getElem? (i := 92) rfl), ov_ch4 (List.mem_of_getElem? (i := 16) rfl)⟩
theorem lb_134 : ov_lB ov_m134 1 := ⟨ov_ch0 (List.mem_of_getElem? (i := 11) rfl), ov_ch4 (List.mem_of_getElem? (i := 90) rfl), ⟨by decide, by decide⟩, by decide +kernel, by decide⟩
theorem lk_Goers_147 : ov_lV "OverFirst$Goers" 147 ov_m134 1 := ⟨lb_134, ov_ch4 (List.mem_of_getElem? (i := 87) rfl), ov_ch4 (List.mem_of_getElem? (i := 88) rfl), ov_ch4 (List.mem_of_getElem? (i := 89) rfl)⟩
theorem lb_137 : ov_lB ov_m137 3 := ⟨ov_ch0 (List.mem_of_getElem? (i := 6) rfl), ov_ch4 (List.mem_of_getElem? (i := 104) rfl), ⟨by decide, by decide⟩, by decide +kernel, by decide⟩
theorem lk_Goers_150 : ov_lV "OverFirst$Goers" 150 ov_m137 3 := ⟨lb_137, ov_ch4 (List.mem_of_getElem? (i := 101) rfl), ov_ch4 (List.mem_of_getElem? (i := 103) rfl), List.mem_of_getElem? (i := 41) rfl⟩
theorem lk_Goers_153 : ov_lV "OverFirst$Goers" 153 ov_m127 2 := ⟨lb_127, ov_ch4 (List.mem_of_getElem? (i := 78) rfl), ov_ch4 (List.mem_of_getElem? (i := 59) rfl), ov_ch4 (List.mem_of_getElem? (i := 60) rfl)⟩
theorem lb_138 : ov_lB ov_m138 4 := ⟨ov_ch0 (List.mem_of_getElem? (i := 11) rfl), ov_ch4 (List.mem_of_getElem? (i := 108) rfl), ⟨by decide, by decide⟩, by decide +kernel, by decide⟩
theorem lk_Goers_156 : ov_lV "OverFirst$Goers" 156 ov_m138 4 := ⟨lb_138, ov_ch4 (List.mem_of_getElem? (i := 105) rfl), ov_ch4 (List.mem_of_getElem? (i := 106) rfl), ov_ch4 (List.mem_of_getElem? (i := 107) rfl)⟩
theorem lk_Goers_160 : ov_lSN "OverFirst$Goers" 160 ov_m62 2 := ⟨lb_62, ov_ch4 (List.mem_of_getElem? (i := 149) rfl), ov_ch3 (List.mem_of_getElem? (i := 6) rfl)⟩
theorem lb_148 : ov_lB ov_m148 1 := ⟨ov_ch0 (List.mem_of_getElem? (i := 7) rfl), ov_ch4 (List.mem_of_getElem? (i := 153) rfl), ⟨by decide, by decide⟩, by decide +kernel, by decide⟩
theorem lk_Goers_164 : ov_lV "OverFirst$Goers" 164 ov_m148 1 := ⟨lb_148, ov_ch4 (List.mem_of_getElem? (i := 150) rfl), ov_ch4 (List.mem_of_getElem? (i := 151) rfl), ov_ch4 (List.mem_of_getElem? (i := 152) rfl)⟩
theorem kc_Goers_167 : Cond.constantLong "OverFirst$Goers" 167 (Int64.ofInt (-1)) ∈ lw_tbl := ov_ch4 (List.mem_of_getElem? (i := 154) rfl)
theorem lk_Goers_169 : ov_lV "OverFirst$Goers" 169 ov_m147 2 := ⟨lb_147, ov_ch4 (List.mem_of_getElem? (i := 190) rfl), ov_ch4 (List.mem_of_getElem? (i := 146) rfl), ov_ch4 (List.mem_of_getElem? (i := 147) rfl)⟩
theorem fl_Goers_172 : ov_fl "OverFirst$Goers" 172 2 15 := ⟨by decide, by decide, ov_ch0 (List.mem_of_getElem? (i := 204) rfl)⟩
theorem fl_Goers_175 : ov_fl "OverFirst$Goers" 175 2 16 := ⟨by decide, by decide, ov_ch0 (List.mem_of_getElem? (i := 205) rfl)⟩
theorem lb_160 : ov_lB ov_m160 0 := ⟨ov_ch0 (List.mem_of_getElem? (i := 11) rfl), ov_ch4 (List.mem_of_getElem? (i := 202) rfl), ⟨by decide, by decide⟩, by decide +kernel, by decide⟩
theorem lk_Goers_178 : ov_lV "OverFirst$Goers" 178 ov_m160 0 := ⟨lb_160, ov_ch4 (List.mem_of_getElem? (i := 199) rfl), ov_ch4 (List.mem_of_getElem? (i := 200) rfl), ov_ch4 (List.mem_of_getElem? (i := 201) rfl)⟩
theorem fl_Goers_181 : ov_fl "OverFirst$Goers" 181 2 17 := ⟨by decide, by decide, ov_ch0 (List.mem_of_getElem? (i := 206) rfl)⟩
theorem lb_161 : ov_lB ov_m161 2 := ⟨ov_ch0 (List.mem_of_getElem? (i := 6) rfl), ov_ch4 (List.mem_of_getElem? (i := 208) rfl), ⟨by decide, by decide⟩, by decide +kernel, by decide⟩
theorem lk_Goers_184 : ov_lV "OverFirst$Goers" 184 ov_m161 2 := ⟨lb_161, ov_ch4 (List.mem_of_getElem? (i := 205) rfl), ov_ch4 (List.mem_of_getElem? (i := 207) rfl), List.mem_of_getElem? (i := 45) rfl⟩
theorem kc_Goers_187 : Cond.constant "OverFirst$Goers" 187 (Int32.ofInt 1000000) ∈ lw_tbl := ov_ch4 (List.mem_of_getElem? (i := 209) rfl)
theorem lb_162 : ov_lB ov_m162 2 := ⟨ov_ch0 (List.mem_of_getElem? (i := 6) rfl), ov_ch4 (List.mem_of_getElem? (i := 213) rfl), ⟨by decide, by decide⟩, by decide +kernel, by decide⟩
theorem lk_Goers_188 : ov_lV "OverFirst$Goers" 188 ov_m162 2 := ⟨lb_162, ov_ch4 (List.mem_of_getElem? (i := 210) rfl), ov_ch4 (List.mem_of_getElem? (i := 212) rfl), List.mem_of_getElem? (i := 46) rfl⟩
theorem lb_163 : ov_lB ov_m163 3 := ⟨ov_ch0 (List.mem_of_getElem? (i := 6) rfl), ov_ch4 (List.mem_of_getElem? (i := 217) rfl), ⟨by decide, by decide⟩, by decide +kernel, by decide⟩
theorem lk_Goers_191 : ov_lV "OverFirst$Goers" 191 ov_m163 3 := ⟨lb_163, ov_ch4 (List.mem_of_getElem? (i := 214) rfl), ov_ch4 (List.mem_of_getElem? (i := 216) rfl), List.mem_of_getElem? (i := 47) rfl⟩
theorem lk_Goers_194 : ov_lV "OverFirst$Goers" 194 ov_m144 3 := ⟨lb_144, ov_ch4 (List.mem_of_getElem? (i := 218) rfl), ov_ch4 (List.mem_of_getElem? (i := 133) rfl), ov_ch4 (List.mem_of_getElem? (i := 134) rfl)⟩
theorem fl_Goers_197 : ov_fl "OverFirst$Goers" 197 2 0 := ⟨by decide, by decide, ov_ch0 (List.mem_of_getElem? (i := 187) rfl)⟩
theorem fl_Goers_200 : ov_fl "OverFirst$Goers" 200 2 1 := ⟨by decide, by decide, ov_ch0 (List.mem_of_getElem? (i := 189) rfl)⟩
theorem lb_194 : ov_lB ov_m194 1 := ⟨ov_ch0 (List.mem_of_getElem? (i := 6) rfl), ov_ch5 (List.mem_of_getElem? (i := 121) rfl), ⟨by decide, by decide⟩, by decide +kernel, by decide⟩
theorem lk_Goers_203 : ov_lV "OverFirst$Goers" 203 ov_m194 1 := ⟨lb_194, ov_ch5 (List.mem_of_getElem? (i := 118) rfl), ov_ch5 (List.mem_of_getElem? (i := 120) rfl), List.mem_of_getElem? (i := 58) rfl⟩
theorem lb_195 : ov_lB ov_m195 0 := ⟨ov_ch0 (List.mem_of_getElem? (i := 6) rfl), ov_ch5 (List.mem_of_getElem? (i := 130) rfl), ⟨by decide, by decide⟩, by decide +kernel, by decide⟩
theorem lk_Goers_207 : ov_lV "OverFirst$Goers" 207 ov_m195 0 := ⟨lb_195, ov_ch5 (List.mem_of_getElem? (i := 127) rfl), ov_ch5 (List.mem_of_getElem? (i := 129) rfl), List.mem_of_getElem? (i := 59) rfl⟩
theorem kc_Goers_210 : Cond.constantLong "OverFirst$Goers" 210 (Int64.ofInt 1103515245) ∈ lw_tbl := ov_ch5 (List.mem_of_getElem? (i := 122) rfl)
theorem kc_Goers_212 : Cond.constantLong "OverFirst$Goers" 212 (Int64.ofInt 12345) ∈ lw_tbl := ov_ch5 (List.mem_of_getElem? (i := 123) rfl)
theorem kc_Goers_214 : Cond.constantLong "OverFirst$Goers" 214 (Int64.ofInt 2147483647) ∈ lw_tbl := ov_ch5 (List.mem_of_getElem? (i := 124) rfl)
theorem kc_Goers_216 : Cond.constantLong "OverFirst$Goers" 216 (Int64.ofInt 65536) ∈ lw_tbl := ov_ch5 (List.mem_of_getElem? (i := 125) rfl)
theorem lb_166 : ov_lB ov_m166 2 := ⟨ov_ch0 (List.mem_of_getElem? (i := 1) rfl), ov_ch4 (List.mem_of_getElem? (i := 230) rfl), ⟨by decide, by decide⟩, by decide +kernel, by decide⟩
theorem lk_Goers_218 : ov_lSN "OverFirst$Goers" 218 ov_m166 2 := ⟨lb_166, ov_ch5 (List.mem_of_getElem? (i := 126) rfl), ov_ch4 (List.mem_of_getElem? (i := 229) rfl)⟩
theorem lo_History_1 : Cond.methodLink "OverFirst$History" 1 Lib.objectInit ∈ lw_tbl := ov_ch0 (List.mem_of_getElem? (i := 141) rfl)
theorem fl_History_9 : ov_fl "OverFirst$History" 9 3 2 := ⟨by decide, by decide, ov_ch0 (List.mem_of_getElem? (i := 145) rfl)⟩
theorem fl_History_13 : ov_fl "OverFirst$History" 13 3 3 := ⟨by decide, by decide, ov_ch0 (List.mem_of_getElem? (i := 146) rfl)⟩
theorem fl_History_16 : ov_fl "OverFirst$History" 16 3 4 := ⟨by decide, by decide, ov_ch0 (List.mem_of_getElem? (i := 147) rfl)⟩
theorem fl_History_19 : ov_fl "OverFirst$History" 19 3 5 := ⟨by decide, by decide, ov_ch0 (List.mem_of_getElem? (i := 148) rfl)⟩
theorem fl_History_23 : ov_fl "OverFirst$History" 23 3 0 := ⟨by decide, by decide, ov_ch0 (List.mem_of_getElem? (i := 142) rfl)⟩
theorem fl_History_27 : ov_fl "OverFirst$History" 27 3 1 := ⟨by decide, by decide, ov_ch0 (List.mem_of_getElem? (i := 144) rfl)⟩
theorem fl_History_30 : ov_fl "OverFirst$History" 30 7 0 := ⟨by decide, by decide, ov_ch0 (List.mem_of_getElem? (i := 94) rfl)⟩
theorem fl_History_35 : ov_fl "OverFirst$History" 35 7 1 := ⟨by decide, by decide, ov_ch0 (List.mem_of_getElem? (i := 97) rfl)⟩
theorem fl_History_38 : ov_fl "OverFirst$History" 38 7 2 := ⟨by decide, by decide, ov_ch0 (List.mem_of_getElem? (i := 100) rfl)⟩
theorem fl_History_40 : ov_fl "OverFirst$History" 40 7 3 := ⟨by decide, by decide, ov_ch0 (List.mem_of_getElem? (i := 103) rfl)⟩
theorem lb_35 : ov_lB ov_m35 2 := ⟨ov_ch0 (List.mem_of_getElem? (i := 17) rfl), ov_ch2 (List.mem_of_getElem? (i := 132) rfl), ⟨by decide, by decide⟩, by decide +kernel, by decide⟩
theorem lk_History_44 : ov_lS "OverFirst$History" 44 ov_m35 2 := ⟨lb_35, ov_ch3 (List.mem_of_getElem? (i := 196) rfl), ov_ch2 (List.mem_of_getElem? (i := 131) rfl)⟩
theorem lo_Memo_3 : Cond.methodLink "OverFirst$Memo" 3 Lib.objectInit ∈ lw_tbl := ov_ch0 (List.mem_of_getElem? (i := 175) rfl)
theorem fl_Memo_9 : ov_fl "OverFirst$Memo" 9 4 0 := ⟨by decide, by decide, ov_ch0 (List.mem_of_getElem? (i := 176) rfl)⟩
theorem fl_Memo_15 : ov_fl "OverFirst$Memo" 15 4 1 := ⟨by decide, by decide, ov_ch0 (List.mem_of_getElem? (i := 177) rfl)⟩
theorem lk_Memo_19 : ov_lS "OverFirst$Memo" 19 ov_m34 2 := ⟨lb_34, ov_ch4 (List.mem_of_getElem? (i := 44) rfl), ov_ch2 (List.mem_of_getElem? (i := 128) rfl)⟩
theorem fl_Memo_25 : ov_fl "OverFirst$Memo" 25 4 2 := ⟨by decide, by decide, ov_ch0 (List.mem_of_getElem? (i := 178) rfl)⟩
theorem lb_14 : ov_lB ov_m14 2 := ⟨ov_ch0 (List.mem_of_getElem? (i := 13) rfl), ov_ch2 (List.mem_of_getElem? (i := 4) rfl), ⟨by decide, by decide⟩, by decide +kernel, by decide⟩
theorem lk_Memo_29 : ov_lS "OverFirst$Memo" 29 ov_m14 2 := ⟨lb_14, ov_ch4 (List.mem_of_getElem? (i := 45) rfl), ov_ch2 (List.mem_of_getElem? (i := 3) rfl)⟩
theorem kc_Memo_35 : Cond.constantLong "OverFirst$Memo" 35 (Int64.ofInt 4294967295) ∈ lw_tbl := ov_ch4 (List.mem_of_getElem? (i := 121) rfl)
theorem lo_Pace_3 : Cond.methodLink "OverFirst$Pace" 3 Lib.objectInit ∈ lw_tbl := ov_ch1 (List.mem_of_getElem? (i := 39) rfl)
theorem fl_Pace_9 : ov_fl "OverFirst$Pace" 9 5 2 := ⟨by decide, by decide, ov_ch1 (List.mem_of_getElem? (i := 46) rfl)⟩
theorem nl_Pace_15 : ov_nl "OverFirst$Pace" 15 4 := ⟨by decide, ov_ch1 (List.mem_of_getElem? (i := 40) rfl), ov_ch0 (List.mem_of_getElem? (i := 171) rfl), ov_ch0 (List.mem_of_getElem? (i := 7) rfl)⟩
theorem lk_Pace_17 : ov_lIN "OverFirst$Pace" 17 ov_m7 0 := ⟨lb_7, ov_ch1 (List.mem_of_getElem? (i := 41) rfl), ov_ch0 (List.mem_of_getElem? (i := 173) rfl), rfl⟩
theorem fl_Pace_18 : ov_fl "OverFirst$Pace" 18 5 3 := ⟨by decide, by decide, ov_ch1 (List.mem_of_getElem? (i := 48) rfl)⟩
theorem fl_Pace_22 : ov_fl "OverFirst$Pace" 22 5 7 := ⟨by decide, by decide, ov_ch1 (List.mem_of_getElem? (i := 52) rfl)⟩
theorem fl_Pace_26 : ov_fl "OverFirst$Pace" 26 5 8 := ⟨by decide, by decide, ov_ch1 (List.mem_of_getElem? (i := 53) rfl)⟩
theorem fl_Pace_30 : ov_fl "OverFirst$Pace" 30 5 4 := ⟨by decide, by decide, ov_ch1 (List.mem_of_getElem? (i := 49) rfl)⟩
theorem fl_Pace_34 : ov_fl "OverFirst$Pace" 34 5 5 := ⟨by decide, by decide, ov_ch1 (List.mem_of_getElem? (i := 50) rfl)⟩
theorem fl_Pace_38 : ov_fl "OverFirst$Pace" 38 9 8 := ⟨by decide, by decide, ov_ch1 (List.mem_of_getElem? (i := 152) rfl)⟩
theorem fl_Pace_43 : ov_fl "OverFirst$Pace" 43 9 7 := ⟨by decide, by decide, ov_ch1 (List.mem_of_getElem? (i := 144) rfl)⟩
theorem fl_Pace_46 : ov_fl "OverFirst$Pace" 46 5 6 := ⟨by decide, by decide, ov_ch1 (List.mem_of_getElem? (i := 51) rfl)⟩
theorem fl_Pace_49 : ov_fl "OverFirst$Pace" 49 10 0 := ⟨by decide, by decide, ov_ch1 (List.mem_of_getElem? (i := 217) rfl)⟩
theorem fl_Pace_54 : ov_fl "OverFirst$Pace" 54 9 10 := ⟨by decide, by decide, ov_ch1 (List.mem_of_getElem? (i := 159) rfl)⟩
theorem lk_Pace_57 : ov_lV "OverFirst$Pace" 57 ov_m124 1 := ⟨lb_124, ov_ch4 (List.mem_of_getElem? (i := 227) rfl), ov_ch4 (List.mem_of_getElem? (i := 41) rfl), ov_ch4 (List.mem_of_getElem? (i := 42) rfl)⟩
theorem lk_Pace_61 : ov_lSN "OverFirst$Pace" 61 ov_m166 2 := ⟨lb_166, ov_ch4 (List.mem_of_getElem? (i := 228) rfl), ov_ch4 (List.mem_of_getElem? (i := 229) rfl)⟩
theorem lb_167 : ov_lB ov_m167 3 := ⟨ov_ch0 (List.mem_of_getElem? (i := 9) rfl), ov_ch4 (List.mem_of_getElem? (i := 235) rfl), ⟨by decide, by decide⟩, by decide +kernel, by decide⟩
theorem lk_Pace_65 : ov_lV "OverFirst$Pace" 65 ov_m167 3 := ⟨lb_167, ov_ch4 (List.mem_of_getElem? (i := 232) rfl), ov_ch4 (List.mem_of_getElem? (i := 234) rfl), List.mem_of_getElem? (i := 48) rfl⟩
theorem fl_Pace_69 : ov_fl "OverFirst$Pace" 69 5 0 := ⟨by decide, by decide, ov_ch1 (List.mem_of_getElem? (i := 42) rfl)⟩
theorem fl_Pace_72 : ov_fl "OverFirst$Pace" 72 5 1 := ⟨by decide, by decide, ov_ch1 (List.mem_of_getElem? (i := 44) rfl)⟩
theorem lb_171 : ov_lB ov_m171 1 := ⟨ov_ch0 (List.mem_of_getElem? (i := 9) rfl), ov_ch5 (List.mem_of_getElem? (i := 16) rfl), ⟨by decide, by decide⟩, by decide +kernel, by decide⟩
theorem lk_Pace_75 : ov_lV "OverFirst$Pace" 75 ov_m171 1 := ⟨lb_171, ov_ch5 (List.mem_of_getElem? (i := 13) rfl), ov_ch5 (List.mem_of_getElem? (i := 15) rfl), List.mem_of_getElem? (i := 52) rfl⟩
theorem lk_Pace_78 : ov_lV "OverFirst$Pace" 78 ov_m128 2 := ⟨lb_128, ov_ch4 (List.mem_of_getElem? (i := 236) rfl), ov_ch4 (List.mem_of_getElem? (i := 63) rfl), ov_ch4 (List.mem_of_getElem? (i := 64) rfl)⟩
theorem lk_Pace_82 : ov_lV "OverFirst$Pace" 82 ov_m129 1 := ⟨lb_129, ov_ch4 (List.mem_of_getElem? (i := 237) rfl), ov_ch4 (List.mem_of_getElem? (i := 67) rfl), ov_ch4 (List.mem_of_getElem? (i := 68) rfl)⟩
theorem lb_168 : ov_lB ov_m168 0 := ⟨ov_ch0 (List.mem_of_getElem? (i := 9) rfl), ov_ch5 (List.mem_of_getElem? (i := 1) rfl), ⟨by decide, by decide⟩, by decide +kernel, by decide⟩
theorem lk_Pace_86 : ov_lV "OverFirst$Pace" 86 ov_m168 0 := ⟨lb_168, ov_ch4 (List.mem_of_getElem? (i := 238) rfl), ov_ch5 (List.mem_of_getElem? (i := 0) rfl), List.mem_of_getElem? (i := 49) rfl⟩
theorem lb_169 : ov_lB ov_m169 0 := ⟨ov_ch0 (List.mem_of_getElem? (i := 9) rfl), ov_ch5 (List.mem_of_getElem? (i := 5) rfl), ⟨by decide, by decide⟩, by decide +kernel, by decide⟩
theorem lk_Pace_90 : ov_lV "OverFirst$Pace" 90 ov_m169 0 := ⟨lb_169, ov_ch5 (List.mem_of_getElem? (i := 2) rfl), ov_ch5 (List.mem_of_getElem? (i := 4) rfl), List.mem_of_getElem? (i := 50) rfl⟩
theorem lb_170 : ov_lB ov_m170 4 := ⟨ov_ch0 (List.mem_of_getElem? (i := 9) rfl), ov_ch5 (List.mem_of_getElem? (i := 9) rfl), ⟨by decide, by decide⟩, by decide +kernel, by decide⟩
theorem lk_Pace_93 : ov_lV "OverFirst$Pace" 93 ov_m170 4 := ⟨lb_170, ov_ch5 (List.mem_of_getElem? (i := 6) rfl), ov_ch5 (List.mem_of_getElem? (i := 8) rfl), List.mem_of_getElem? (i := 51) rfl⟩
theorem lk_Pace_97 : ov_lV "OverFirst$Pace" 97 ov_m141 3 := ⟨lb_141, ov_ch5 (List.mem_of_getElem? (i := 12) rfl), ov_ch4 (List.mem_of_getElem? (i := 118) rfl), ov_ch4 (List.mem_of_getElem? (i := 119) rfl)⟩
theorem fl_Pace_101 : ov_fl "OverFirst$Pace" 101 10 2 := ⟨by decide, by decide, ov_ch1 (List.mem_of_getElem? (i := 223) rfl)⟩
theorem fl_Pace_104 : ov_fl "OverFirst$Pace" 104 10 3 := ⟨by decide, by decide, ov_ch1 (List.mem_of_getElem? (i := 225) rfl)⟩
theorem lk_Pace_107 : ov_lV "OverFirst$Pace" 107 ov_m98 2 := ⟨lb_98, ov_ch5 (List.mem_of_getElem? (i := 10) rfl), ov_ch3 (List.mem_of_getElem? (i := 170) rfl), ov_ch3 (List.mem_of_getElem? (i := 171) rfl)⟩
theorem lk_Pace_110 : ov_lV "OverFirst$Pace" 110 ov_m99 3 := ⟨lb_99, ov_ch5 (List.mem_of_getElem? (i := 11) rfl), ov_ch3 (List.mem_of_getElem? (i := 174) rfl), ov_ch3 (List.mem_of_getElem? (i := 175) rfl)⟩
theorem lo_Reader_3 : Cond.methodLink "OverFirst$Reader" 3 Lib.objectInit ∈ lw_tbl := ov_ch0 (List.mem_of_getElem? (i := 73) rfl)
theorem fl_Reader_9 : ov_fl "OverFirst$Reader" 9 6 0 := ⟨by decide, by decide, ov_ch0 (List.mem_of_getElem? (i := 74) rfl)⟩
theorem fl_Reader_15 : ov_fl "OverFirst$Reader" 15 6 1 := ⟨by decide, by decide, ov_ch0 (List.mem_of_getElem? (i := 75) rfl)⟩
theorem lk_Reader_19 : ov_lV "OverFirst$Reader" 19 ov_m13 0 := ⟨lb_13, ov_ch2 (List.mem_of_getElem? (i := 89) rfl), ov_ch1 (List.mem_of_getElem? (i := 239) rfl), ov_ch2 (List.mem_of_getElem? (i := 0) rfl)⟩
theorem fl_Reader_24 : ov_fl "OverFirst$Reader" 24 6 2 := ⟨by decide, by decide, ov_ch0 (List.mem_of_getElem? (i := 76) rfl)⟩
theorem lb_25 : ov_lB ov_m25 0 := ⟨ov_ch0 (List.mem_of_getElem? (i := 2) rfl), ov_ch2 (List.mem_of_getElem? (i := 93) rfl), ⟨by decide, by decide⟩, by decide +kernel, by decide⟩
theorem lk_Reader_28 : ov_lV "OverFirst$Reader" 28 ov_m25 0 := ⟨lb_25, ov_ch2 (List.mem_of_getElem? (i := 90) rfl), ov_ch2 (List.mem_of_getElem? (i := 91) rfl), ov_ch2 (List.mem_of_getElem? (i := 92) rfl)⟩
theorem lb_49 : ov_lB ov_m49 0 := ⟨ov_ch0 (List.mem_of_getElem? (i := 3) rfl), ov_ch2 (List.mem_of_getElem? (i := 188) rfl), ⟨by decide, by decide⟩, by decide +kernel, by decide⟩
theorem lk_Reader_33 : ov_lV "OverFirst$Reader" 33 ov_m49 0 := ⟨lb_49, ov_ch2 (List.mem_of_getElem? (i := 185) rfl), ov_ch2 (List.mem_of_getElem? (i := 187) rfl), List.mem_of_getElem? (i := 2) rfl⟩
theorem fl_Reader_37 : ov_fl "OverFirst$Reader" 37 8 2 := ⟨by decide, by decide, ov_ch0 (List.mem_of_getElem? (i := 40) rfl)⟩
theorem lb_57 : ov_lB ov_m57 0 := ⟨ov_ch0 (List.mem_of_getElem? (i := 3) rfl), ov_ch2 (List.mem_of_getElem? (i := 222) rfl), ⟨by decide, by decide⟩, by decide +kernel, by decide⟩
theorem lk_Reader_40 : ov_lV "OverFirst$Reader" 40 ov_m57 0 := ⟨lb_57, ov_ch2 (List.mem_of_getElem? (i := 219) rfl), ov_ch2 (List.mem_of_getElem? (i := 221) rfl), List.mem_of_getElem? (i := 8) rfl⟩
theorem lk_Reader_43 : ov_lV "OverFirst$Reader" 43 ov_m15 0 := ⟨lb_15, ov_ch3 (List.mem_of_getElem? (i := 89) rfl), ov_ch2 (List.mem_of_getElem? (i := 6) rfl), ov_ch2 (List.mem_of_getElem? (i := 7) rfl)⟩
theorem lb_79 : ov_lB ov_m79 0 := ⟨ov_ch0 (List.mem_of_getElem? (i := 2) rfl), ov_ch3 (List.mem_of_getElem? (i := 93) rfl), ⟨by decide, by decide⟩, by decide +kernel, by decide⟩
theorem lk_Reader_46 : ov_lV "OverFirst$Reader" 46 ov_m79 0 := ⟨lb_79, ov_ch3 (List.mem_of_getElem? (i := 90) rfl), ov_ch3 (List.mem_of_getElem? (i := 91) rfl), ov_ch3 (List.mem_of_getElem? (i := 92) rfl)⟩
theorem lk_Reader_47 : ov_lV "OverFirst$Reader" 47 ov_m80 0 := ⟨lb_80, ov_ch3 (List.mem_of_getElem? (i := 135) rfl), ov_ch3 (List.mem_of_getElem? (i := 95) rfl), ov_ch3 (List.mem_of_getElem? (i := 96) rfl)⟩
theorem lb_90 : ov_lB ov_m90 1 := ⟨ov_ch0 (List.mem_of_getElem? (i := 3) rfl), ov_ch3 (List.mem_of_getElem? (i := 139) rfl), ⟨by decide, by decide⟩, by decide +kernel, by decide⟩
theorem lk_Reader_50 : ov_lV "OverFirst$Reader" 50 ov_m90 1 := ⟨lb_90, ov_ch3 (List.mem_of_getElem? (i := 136) rfl), ov_ch3 (List.mem_of_getElem? (i := 138) rfl), List.mem_of_getElem? (i := 26) rfl⟩
theorem lb_65 : ov_lB ov_m65 0 := ⟨ov_ch0 (List.mem_of_getElem? (i := 3) rfl), ov_ch3 (List.mem_of_getElem? (i := 22) rfl), ⟨by decide, by decide⟩, by decide +kernel, by decide⟩
theorem lk_Reader_54 : ov_lV "OverFirst$Reader" 54 ov_m65 0 := ⟨lb_65, ov_ch3 (List.mem_of_getElem? (i := 19) rfl), ov_ch3 (List.mem_of_getElem? (i := 21) rfl), List.mem_of_getElem? (i := 14) rfl⟩
theorem lb_52 : ov_lB ov_m52 1 := ⟨ov_ch0 (List.mem_of_getElem? (i := 3) rfl), ov_ch2 (List.mem_of_getElem? (i := 201) rfl), ⟨by decide, by decide⟩, by decide +kernel, by decide⟩
theorem lk_Reader_58 : ov_lV "OverFirst$Reader" 58 ov_m52 1 := ⟨lb_52, ov_ch2 (List.mem_of_getElem? (i := 198) rfl), ov_ch2 (List.mem_of_getElem? (i := 200) rfl), List.mem_of_getElem? (i := 4) rfl⟩
theorem fl_Reader_62 : ov_fl "OverFirst$Reader" 62 10 1 := ⟨by decide, by decide, ov_ch1 (List.mem_of_getElem? (i := 221) rfl)⟩
theorem lb_18 : ov_lB ov_m18 2 := ⟨ov_ch0 (List.mem_of_getElem? (i := 11) rfl), ov_ch2 (List.mem_of_getElem? (i := 20) rfl), ⟨by decide, by decide⟩, by decide +kernel, by decide⟩
theorem lk_Reader_65 : ov_lV "OverFirst$Reader" 65 ov_m18 2 := ⟨lb_18, ov_ch3 (List.mem_of_getElem? (i := 140) rfl), ov_ch2 (List.mem_of_getElem? (i := 18) rfl), ov_ch2 (List.mem_of_getElem? (i := 19) rfl)⟩
theorem lb_19 : ov_lB ov_m19 2 := ⟨ov_ch0 (List.mem_of_getElem? (i := 11) rfl), ov_ch2 (List.mem_of_getElem? (i := 24) rfl), ⟨by decide, by decide⟩, by decide +kernel, by decide⟩
theorem lk_Reader_69 : ov_lV "OverFirst$Reader" 69 ov_m19 2 := ⟨lb_19, ov_ch3 (List.mem_of_getElem? (i := 24) rfl), ov_ch2 (List.mem_of_getElem? (i := 22) rfl), ov_ch2 (List.mem_of_getElem? (i := 23) rfl)⟩
theorem fl_Reader_72 : ov_fl "OverFirst$Reader" 72 10 0 := ⟨by decide, by decide, ov_ch1 (List.mem_of_getElem? (i := 218) rfl)⟩
theorem lb_26 : ov_lB ov_m26 0 := ⟨ov_ch0 (List.mem_of_getElem? (i := 2) rfl), ov_ch2 (List.mem_of_getElem? (i := 97) rfl), ⟨by decide, by decide⟩, by decide +kernel, by decide⟩
theorem lk_Reader_75 : ov_lV "OverFirst$Reader" 75 ov_m26 0 := ⟨lb_26, ov_ch2 (List.mem_of_getElem? (i := 202) rfl), ov_ch2 (List.mem_of_getElem? (i := 95) rfl), ov_ch2 (List.mem_of_getElem? (i := 96) rfl)⟩
theorem lb_53 : ov_lB ov_m53 2 := ⟨ov_ch0 (List.mem_of_getElem? (i := 3) rfl), ov_ch2 (List.mem_of_getElem? (i := 206) rfl), ⟨by decide, by decide⟩, by decide +kernel, by decide⟩
theorem lk_Reader_78 : ov_lV "OverFirst$Reader" 78 ov_m53 2 := ⟨lb_53, ov_ch2 (List.mem_of_getElem? (i := 203) rfl), ov_ch2 (List.mem_of_getElem? (i := 205) rfl), List.mem_of_getElem? (i := 5) rfl⟩
theorem fl_Reader_81 : ov_fl "OverFirst$Reader" 81 6 3 := ⟨by decide, by decide, ov_ch0 (List.mem_of_getElem? (i := 77) rfl)⟩
theorem lk_Reader_84 : ov_lV "OverFirst$Reader" 84 ov_m91 2 := ⟨lb_91, ov_ch3 (List.mem_of_getElem? (i := 141) rfl), ov_ch3 (List.mem_of_getElem? (i := 142) rfl), ov_ch3 (List.mem_of_getElem? (i := 143) rfl)⟩
theorem lb_92 : ov_lB ov_m92 4 := ⟨ov_ch0 (List.mem_of_getElem? (i := 12) rfl), ov_ch3 (List.mem_of_getElem? (i := 148) rfl), ⟨by decide, by decide⟩, by decide +kernel, by decide⟩
theorem lk_Reader_88 : ov_lV "OverFirst$Reader" 88 ov_m92 4 := ⟨lb_92, ov_ch3 (List.mem_of_getElem? (i := 145) rfl), ov_ch3 (List.mem_of_getElem? (i := 146) rfl), ov_ch3 (List.mem_of_getElem? (i := 147) rfl)⟩
theorem lb_55 : ov_lB ov_m55 1 := ⟨ov_ch0 (List.mem_of_getElem? (i := 3) rfl), ov_ch2 (List.mem_of_getElem? (i := 214) rfl), ⟨by decide, by decide⟩, by decide +kernel, by decide⟩
theorem lk_Reader_92 : ov_lV "OverFirst$Reader" 92 ov_m55 1 := ⟨lb_55, ov_ch2 (List.mem_of_getElem? (i := 211) rfl), ov_ch2 (List.mem_of_getElem? (i := 213) rfl), List.mem_of_getElem? (i := 7) rfl⟩
theorem kc_Reader_96 : Cond.constantLong "OverFirst$Reader" 96 (Int64.ofInt 1953462126) ∈ lw_tbl := ov_ch2 (List.mem_of_getElem? (i := 189) rfl)
theorem lb_50 : ov_lB ov_m50 1 := ⟨ov_ch0 (List.mem_of_getElem? (i := 3) rfl), ov_ch2 (List.mem_of_getElem? (i := 193) rfl), ⟨by decide, by decide⟩, by decide +kernel, by decide⟩
theorem lk_Reader_98 : ov_lV "OverFirst$Reader" 98 ov_m50 1 := ⟨lb_50, ov_ch2 (List.mem_of_getElem? (i := 190) rfl), ov_ch2 (List.mem_of_getElem? (i := 192) rfl), List.mem_of_getElem? (i := 3) rfl⟩
theorem fl_Reader_102 : ov_fl "OverFirst$Reader" 102 9 0 := ⟨by decide, by decide, ov_ch1 (List.mem_of_getElem? (i := 116) rfl)⟩
theorem fl_Reader_105 : ov_fl "OverFirst$Reader" 105 9 1 := ⟨by decide, by decide, ov_ch1 (List.mem_of_getElem? (i := 119) rfl)⟩
theorem kc_Reader_108 : Cond.constantLong "OverFirst$Reader" 108 (Int64.ofInt 465624852596) ∈ lw_tbl := ov_ch2 (List.mem_of_getElem? (i := 223) rfl)
theorem lb_51 : ov_lB ov_m51 1 := ⟨ov_ch0 (List.mem_of_getElem? (i := 2) rfl), ov_ch2 (List.mem_of_getElem? (i := 197) rfl), ⟨by decide, by decide⟩, by decide +kernel, by decide⟩
theorem lk_Reader_110 : ov_lV "OverFirst$Reader" 110 ov_m51 1 := ⟨lb_51, ov_ch2 (List.mem_of_getElem? (i := 194) rfl), ov_ch2 (List.mem_of_getElem? (i := 195) rfl), ov_ch2 (List.mem_of_getElem? (i := 196) rfl)⟩
theorem lb_58 : ov_lB ov_m58 0 := ⟨ov_ch0 (List.mem_of_getElem? (i := 3) rfl), ov_ch2 (List.mem_of_getElem? (i := 227) rfl), ⟨by decide, by decide⟩, by decide +kernel, by decide⟩
theorem lk_Reader_113 : ov_lV "OverFirst$Reader" 113 ov_m58 0 := ⟨lb_58, ov_ch2 (List.mem_of_getElem? (i := 224) rfl), ov_ch2 (List.mem_of_getElem? (i := 226) rfl), List.mem_of_getElem? (i := 9) rfl⟩
theorem kc_Reader_116 : Cond.constantLong "OverFirst$Reader" 116 (Int64.ofInt 6447474) ∈ lw_tbl := ov_ch3 (List.mem_of_getElem? (i := 14) rfl)
theorem lb_64 : ov_lB ov_m64 0 := ⟨ov_ch0 (List.mem_of_getElem? (i := 3) rfl), ov_ch3 (List.mem_of_getElem? (i := 18) rfl), ⟨by decide, by decide⟩, by decide +kernel, by decide⟩
theorem lk_Reader_118 : ov_lV "OverFirst$Reader" 118 ov_m64 0 := ⟨lb_64, ov_ch3 (List.mem_of_getElem? (i := 15) rfl), ov_ch3 (List.mem_of_getElem? (i := 17) rfl), List.mem_of_getElem? (i := 13) rfl⟩
theorem kc_Reader_121 : Cond.constantLong "OverFirst$Reader" 121 (Int64.ofInt 1920298085) ∈ lw_tbl := ov_ch3 (List.mem_of_getElem? (i := 25) rfl)
theorem lb_66 : ov_lB ov_m66 0 := ⟨ov_ch0 (List.mem_of_getElem? (i := 3) rfl), ov_ch3 (List.mem_of_getElem? (i := 29) rfl), ⟨by decide, by decide⟩, by decide +kernel, by decide⟩
theorem lk_Reader_123 : ov_lV "OverFirst$Reader" 123 ov_m66 0 := ⟨lb_66, ov_ch3 (List.mem_of_getElem? (i := 26) rfl), ov_ch3 (List.mem_of_getElem? (i := 28) rfl), List.mem_of_getElem? (i := 15) rfl⟩
theorem kc_Reader_126 : Cond.constantLong "OverFirst$Reader" 126 (Int64.ofInt 2002873451) ∈ lw_tbl := ov_ch3 (List.mem_of_getElem? (i := 76) rfl)
theorem lb_77 : ov_lB ov_m77 3 := ⟨ov_ch0 (List.mem_of_getElem? (i := 3) rfl), ov_ch3 (List.mem_of_getElem? (i := 80) rfl), ⟨by decide, by decide⟩, by decide +kernel, by decide⟩
theorem lk_Reader_128 : ov_lV "OverFirst$Reader" 128 ov_m77 3 := ⟨lb_77, ov_ch3 (List.mem_of_getElem? (i := 77) rfl), ov_ch3 (List.mem_of_getElem? (i := 79) rfl), List.mem_of_getElem? (i := 22) rfl⟩
theorem kc_Reader_132 : Cond.constantLong "OverFirst$Reader" 132 (Int64.ofInt 7501166) ∈ lw_tbl := ov_ch3 (List.mem_of_getElem? (i := 81) rfl)
theorem kc_Reader_134 : Cond.constantLong "OverFirst$Reader" 134 (Int64.ofInt 1936486263) ∈ lw_tbl := ov_ch3 (List.mem_of_getElem? (i := 82) rfl)
theorem kc_Reader_136 : Cond.constantLong "OverFirst$Reader" 136 (Int64.ofInt 1920298611) ∈ lw_tbl := ov_ch3 (List.mem_of_getElem? (i := 83) rfl)
theorem kc_Reader_138 : Cond.constantLong "OverFirst$Reader" 138 (Int64.ofInt 426953501796) ∈ lw_tbl := ov_ch3 (List.mem_of_getElem? (i := 84) rfl)
theorem lb_78 : ov_lB ov_m78 0 := ⟨ov_ch0 (List.mem_of_getElem? (i := 3) rfl), ov_ch3 (List.mem_of_getElem? (i := 88) rfl), ⟨by decide, by decide⟩, by decide +kernel, by decide⟩
theorem lk_Reader_140 : ov_lV "OverFirst$Reader" 140 ov_m78 0 := ⟨lb_78, ov_ch3 (List.mem_of_getElem? (i := 85) rfl), ov_ch3 (List.mem_of_getElem? (i := 87) rfl), List.mem_of_getElem? (i := 23) rfl⟩
theorem lb_54 : ov_lB ov_m54 2 := ⟨ov_ch0 (List.mem_of_getElem? (i := 3) rfl), ov_ch2 (List.mem_of_getElem? (i := 210) rfl), ⟨by decide, by decide⟩, by decide +kernel, by decide⟩
theorem lk_Reader_143 : ov_lV "OverFirst$Reader" 143 ov_m54 2 := ⟨lb_54, ov_ch2 (List.mem_of_getElem? (i := 207) rfl), ov_ch2 (List.mem_of_getElem? (i := 209) rfl), List.mem_of_getElem? (i := 6) rfl⟩
theorem fl_Reader_146 : ov_fl "OverFirst$Reader" 146 8 4 := ⟨by decide, by decide, ov_ch0 (List.mem_of_getElem? (i := 45) rfl)⟩
theorem fl_Reader_147 : ov_fl "OverFirst$Reader" 147 9 2 := ⟨by decide, by decide, ov_ch1 (List.mem_of_getElem? (i := 125) rfl)⟩
theorem lb_59 : ov_lB ov_m59 0 := ⟨ov_ch0 (List.mem_of_getElem? (i := 3) rfl), ov_ch2 (List.mem_of_getElem? (i := 231) rfl), ⟨by decide, by decide⟩, by decide +kernel, by decide⟩
theorem lk_Reader_151 : ov_lV "OverFirst$Reader" 151 ov_m59 0 := ⟨lb_59, ov_ch2 (List.mem_of_getElem? (i := 228) rfl), ov_ch2 (List.mem_of_getElem? (i := 230) rfl), List.mem_of_getElem? (i := 10) rfl⟩
theorem fl_Reader_154 : ov_fl "OverFirst$Reader" 154 9 9 := ⟨by decide, by decide, ov_ch1 (List.mem_of_getElem? (i := 156) rfl)⟩
theorem lb_60 : ov_lB ov_m60 1 := ⟨ov_ch0 (List.mem_of_getElem? (i := 3) rfl), ov_ch2 (List.mem_of_getElem? (i := 239) rfl), ⟨by decide, by decide⟩, by decide +kernel, by decide⟩
theorem lk_Reader_157 : ov_lV "OverFirst$Reader" 157 ov_m60 1 := ⟨lb_60, ov_ch2 (List.mem_of_getElem? (i := 236) rfl), ov_ch2 (List.mem_of_getElem? (i := 238) rfl), List.mem_of_getElem? (i := 11) rfl⟩
theorem lb_63 : ov_lB ov_m63 1 := ⟨ov_ch0 (List.mem_of_getElem? (i := 3) rfl), ov_ch3 (List.mem_of_getElem? (i := 11) rfl), ⟨by decide, by decide⟩, by decide +kernel, by decide⟩
theorem lk_Reader_160 : ov_lV "OverFirst$Reader" 160 ov_m63 1 := ⟨lb_63, ov_ch3 (List.mem_of_getElem? (i := 8) rfl), ov_ch3 (List.mem_of_getElem? (i := 10) rfl), List.mem_of_getElem? (i := 12) rfl⟩
theorem kc_Reader_163 : Cond.constantLong "OverFirst$Reader" 163 (Int64.ofInt 491496238692) ∈ lw_tbl := ov_ch3 (List.mem_of_getElem? (i := 0) rfl)
theorem fl_Reader_165 : ov_fl "OverFirst$Reader" 165 9 3 := ⟨by decide, by decide, ov_ch1 (List.mem_of_getElem? (i := 130) rfl)⟩
theorem lk_Reader_168 : ov_lV "OverFirst$Reader" 168 ov_m20 1 := ⟨lb_20, ov_ch3 (List.mem_of_getElem? (i := 1) rfl), ov_ch2 (List.mem_of_getElem? (i := 26) rfl), ov_ch2 (List.mem_of_getElem? (i := 27) rfl)⟩
theorem fl_Reader_171 : ov_fl "OverFirst$Reader" 171 9 10 := ⟨by decide, by decide, ov_ch1 (List.mem_of_getElem? (i := 162) rfl)⟩
theorem lk_Reader_174 : ov_lSN "OverFirst$Reader" 174 ov_m61 2 := ⟨lb_61, ov_ch3 (List.mem_of_getElem? (i := 2) rfl), ov_ch3 (List.mem_of_getElem? (i := 3) rfl)⟩
theorem kc_Reader_177 : Cond.constantLong "OverFirst$Reader" 177 (Int64.ofInt 1870030194) ∈ lw_tbl := ov_ch3 (List.mem_of_getElem? (i := 12) rfl)
theorem fl_Reader_179 : ov_fl "OverFirst$Reader" 179 9 4 := ⟨by decide, by decide, ov_ch1 (List.mem_of_getElem? (i := 134) rfl)⟩
theorem kc_Reader_182 : Cond.constantLong "OverFirst$Reader" 182 (Int64.ofInt 6713202) ∈ lw_tbl := ov_ch3 (List.mem_of_getElem? (i := 13) rfl)
theorem fl_Reader_184 : ov_fl "OverFirst$Reader" 184 9 5 := ⟨by decide, by decide, ov_ch1 (List.mem_of_getElem? (i := 139) rfl)⟩
theorem fl_Reader_187 : ov_fl "OverFirst$Reader" 187 9 6 := ⟨by decide, by decide, ov_ch1 (List.mem_of_getElem? (i := 142) rfl)⟩
theorem fl_Reader_190 : ov_fl "OverFirst$Reader" 190 9 7 := ⟨by decide, by decide, ov_ch1 (List.mem_of_getElem? (i := 150) rfl)⟩
theorem fl_Reader_193 : ov_fl "OverFirst$Reader" 193 9 8 := ⟨by decide, by decide, ov_ch1 (List.mem_of_getElem? (i := 154) rfl)⟩
theorem fl_Reader_197 : ov_fl "OverFirst$Reader" 197 9 11 := ⟨by decide, by decide, ov_ch1 (List.mem_of_getElem? (i := 165) rfl)⟩
theorem fl_Reader_200 : ov_fl "OverFirst$Reader" 200 8 6 := ⟨by decide, by decide, ov_ch0 (List.mem_of_getElem? (i := 48) rfl)⟩
theorem lb_67 : ov_lB ov_m67 1 := ⟨ov_ch0 (List.mem_of_getElem? (i := 3) rfl), ov_ch3 (List.mem_of_getElem? (i := 32) rfl), ⟨by decide, by decide⟩, by decide +kernel, by decide⟩
theorem lk_Reader_204 : ov_lS "OverFirst$Reader" 204 ov_m67 1 := ⟨lb_67, ov_ch3 (List.mem_of_getElem? (i := 30) rfl), ov_ch3 (List.mem_of_getElem? (i := 31) rfl)⟩
theorem lb_68 : ov_lB ov_m68 1 := ⟨ov_ch0 (List.mem_of_getElem? (i := 11) rfl), ov_ch3 (List.mem_of_getElem? (i := 38) rfl), ⟨by decide, by decide⟩, by decide +kernel, by decide⟩
theorem lk_Reader_207 : ov_lV "OverFirst$Reader" 207 ov_m68 1 := ⟨lb_68, ov_ch3 (List.mem_of_getElem? (i := 35) rfl), ov_ch3 (List.mem_of_getElem? (i := 36) rfl), ov_ch3 (List.mem_of_getElem? (i := 37) rfl)⟩
theorem lb_69 : ov_lB ov_m69 1 := ⟨ov_ch0 (List.mem_of_getElem? (i := 3) rfl), ov_ch3 (List.mem_of_getElem? (i := 42) rfl), ⟨by decide, by decide⟩, by decide +kernel, by decide⟩
theorem lk_Reader_210 : ov_lV "OverFirst$Reader" 210 ov_m69 1 := ⟨lb_69, ov_ch3 (List.mem_of_getElem? (i := 39) rfl), ov_ch3 (List.mem_of_getElem? (i := 41) rfl), List.mem_of_getElem? (i := 16) rfl⟩
theorem lb_76 : ov_lB ov_m76 1 := ⟨ov_ch0 (List.mem_of_getElem? (i := 11) rfl), ov_ch3 (List.mem_of_getElem? (i := 75) rfl), ⟨by decide, by decide⟩, by decide +kernel, by decide⟩
theorem lk_Reader_213 : ov_lV "OverFirst$Reader" 213 ov_m76 1 := ⟨lb_76, ov_ch3 (List.mem_of_getElem? (i := 72) rfl), ov_ch3 (List.mem_of_getElem? (i := 73) rfl), ov_ch3 (List.mem_of_getElem? (i := 74) rfl)⟩
theorem lb_70 : ov_lB ov_m70 1 := ⟨ov_ch0 (List.mem_of_getElem? (i := 3) rfl), ov_ch3 (List.mem_of_getElem? (i := 46) rfl), ⟨by decide, by decide⟩, by decide +kernel, by decide⟩
theorem lk_Reader_217 : ov_lV "OverFirst$Reader" 217 ov_m70 1 := ⟨lb_70, ov_ch3 (List.mem_of_getElem? (i := 43) rfl), ov_ch3 (List.mem_of_getElem? (i := 45) rfl), List.mem_of_getElem? (i := 17) rfl⟩
theorem kc_Reader_220 : Cond.constantLong "OverFirst$Reader" 220 (Int64.ofInt 6385252) ∈ lw_tbl := ov_ch3 (List.mem_of_getElem? (i := 70) rfl)
theorem kc_Reader_222 : Cond.constantLong "OverFirst$Reader" 222 (Int64.ofInt 28530) ∈ lw_tbl := ov_ch3 (List.mem_of_getElem? (i := 71) rfl)
theorem lb_75 : ov_lB ov_m75 1 := ⟨ov_ch0 (List.mem_of_getElem? (i := 11) rfl), ov_ch3 (List.mem_of_getElem? (i := 69) rfl), ⟨by decide, by decide⟩, by decide +kernel, by decide⟩
theorem lk_Reader_224 : ov_lV "OverFirst$Reader" 224 ov_m75 1 := ⟨lb_75, ov_ch3 (List.mem_of_getElem? (i := 66) rfl), ov_ch3 (List.mem_of_getElem? (i := 67) rfl), ov_ch3 (List.mem_of_getElem? (i := 68) rfl)⟩
theorem lb_71 : ov_lB ov_m71 1 := ⟨ov_ch0 (List.mem_of_getElem? (i := 3) rfl), ov_ch3 (List.mem_of_getElem? (i := 50) rfl), ⟨by decide, by decide⟩, by decide +kernel, by decide⟩
theorem lk_Reader_228 : ov_lV "OverFirst$Reader" 228 ov_m71 1 := ⟨lb_71, ov_ch3 (List.mem_of_getElem? (i := 47) rfl), ov_ch3 (List.mem_of_getElem? (i := 49) rfl), List.mem_of_getElem? (i := 18) rfl⟩
theorem lb_56 : ov_lB ov_m56 1 := ⟨ov_ch0 (List.mem_of_getElem? (i := 2) rfl), ov_ch2 (List.mem_of_getElem? (i := 218) rfl), ⟨by decide, by decide⟩, by decide +kernel, by decide⟩
theorem lk_Reader_231 : ov_lV "OverFirst$Reader" 231 ov_m56 1 := ⟨lb_56, ov_ch2 (List.mem_of_getElem? (i := 215) rfl), ov_ch2 (List.mem_of_getElem? (i := 216) rfl), ov_ch2 (List.mem_of_getElem? (i := 217) rfl)⟩
theorem lb_72 : ov_lB ov_m72 1 := ⟨ov_ch0 (List.mem_of_getElem? (i := 3) rfl), ov_ch3 (List.mem_of_getElem? (i := 54) rfl), ⟨by decide, by decide⟩, by decide +kernel, by decide⟩
theorem lk_Reader_234 : ov_lV "OverFirst$Reader" 234 ov_m72 1 := ⟨lb_72, ov_ch3 (List.mem_of_getElem? (i := 51) rfl), ov_ch3 (List.mem_of_getElem? (i := 53) rfl), List.mem_of_getElem? (i := 19) rfl⟩
theorem lb_73 : ov_lB ov_m73 1 := ⟨ov_ch0 (List.mem_of_getElem? (i := 3) rfl), ov_ch3 (List.mem_of_getElem? (i := 58) rfl), ⟨by decide, by decide⟩, by decide +kernel, by decide⟩
theorem lk_Reader_237 : ov_lV "OverFirst$Reader" 237 ov_m73 1 := ⟨lb_73, ov_ch3 (List.mem_of_getElem? (i := 55) rfl), ov_ch3 (List.mem_of_getElem? (i := 57) rfl), List.mem_of_getElem? (i := 20) rfl⟩
theorem lb_74 : ov_lB ov_m74 0 := ⟨ov_ch0 (List.mem_of_getElem? (i := 3) rfl), ov_ch3 (List.mem_of_getElem? (i := 62) rfl), ⟨by decide, by decide⟩, by decide +kernel, by decide⟩
theorem lk_Reader_240 : ov_lV "OverFirst$Reader" 240 ov_m74 0 := ⟨lb_74, ov_ch3 (List.mem_of_getElem? (i := 59) rfl), ov_ch3 (List.mem_of_getElem? (i := 61) rfl), List.mem_of_getElem? (i := 21) rfl⟩
theorem kc_Reader_243 : Cond.constantLong "OverFirst$Reader" 243 (Int64.ofInt 7237492) ∈ lw_tbl := ov_ch3 (List.mem_of_getElem? (i := 65) rfl)
theorem kc_Reader_245 : Cond.constantLong "OverFirst$Reader" 245 (Int64.ofInt 1818584692) ∈ lw_tbl := ov_ch3 (List.mem_of_getElem? (i := 63) rfl)
theorem kc_Reader_247 : Cond.constantLong "OverFirst$Reader" 247 (Int64.ofInt 30064) ∈ lw_tbl := ov_ch3 (List.mem_of_getElem? (i := 64) rfl)
theorem kc_Reader_249 : Cond.constantLong "OverFirst$Reader" 249 (Int64.ofInt 28526) ∈ lw_tbl := ov_ch3 (List.mem_of_getElem? (i := 23) rfl)
theorem kc_Reader_251 : Cond.constantLong "OverFirst$Reader" 251 (Int64.ofInt 427021001579) ∈ lw_tbl := ov_ch2 (List.mem_of_getElem? (i := 232) rfl)
theorem kc_Reader_253 : Cond.constantLong "OverFirst$Reader" 253 (Int64.ofInt 114801865155950) ∈ lw_tbl := ov_ch2 (List.mem_of_getElem? (i := 233) rfl)
theorem kc_Reader_255 : Cond.constantLong "OverFirst$Reader" 255 (Int64.ofInt 108256604483438) ∈ lw_tbl := ov_ch2 (List.mem_of_getElem? (i := 234) rfl)
theorem kc_Reader_257 : Cond.constantLong "OverFirst$Reader" 257 (Int64.ofInt 123623862526821) ∈ lw_tbl := ov_ch2 (List.mem_of_getElem? (i := 235) rfl)
theorem fl_Reader_263 : ov_fl "OverFirst$Reader" 263 8 3 := ⟨by decide, by decide, ov_ch0 (List.mem_of_getElem? (i := 43) rfl)⟩
theorem lo_State_3 : Cond.methodLink "OverFirst$State" 3 Lib.objectInit ∈ lw_tbl := ov_ch0 (List.mem_of_getElem? (i := 92) rfl)
theorem fl_State_11 : ov_fl "OverFirst$State" 11 7 6 := ⟨by decide, by decide, ov_ch0 (List.mem_of_getElem? (i := 110) rfl)⟩
theorem fl_State_15 : ov_fl "OverFirst$State" 15 7 7 := ⟨by decide, by decide, ov_ch0 (List.mem_of_getElem? (i := 111) rfl)⟩
theorem fl_State_18 : ov_fl "OverFirst$State" 18 7 8 := ⟨by decide, by decide, ov_ch0 (List.mem_of_getElem? (i := 112) rfl)⟩
theorem fl_State_21 : ov_fl "OverFirst$State" 21 7 9 := ⟨by decide, by decide, ov_ch0 (List.mem_of_getElem? (i := 113) rfl)⟩
theorem fl_State_24 : ov_fl "OverFirst$State" 24 7 0 := ⟨by decide, by decide, ov_ch0 (List.mem_of_getElem? (i := 93) rfl)⟩
theorem fl_State_28 : ov_fl "OverFirst$State" 28 7 1 := ⟨by decide, by decide, ov_ch0 (List.mem_of_getElem? (i := 96) rfl)⟩
theorem fl_State_31 : ov_fl "OverFirst$State" 31 7 2 := ⟨by decide, by decide, ov_ch0 (List.mem_of_getElem? (i := 99) rfl)⟩
theorem fl_State_34 : ov_fl "OverFirst$State" 34 7 3 := ⟨by decide, by decide, ov_ch0 (List.mem_of_getElem? (i := 102) rfl)⟩
theorem fl_State_38 : ov_fl "OverFirst$State" 38 7 4 := ⟨by decide, by decide, ov_ch0 (List.mem_of_getElem? (i := 105) rfl)⟩
theorem fl_State_41 : ov_fl "OverFirst$State" 41 7 5 := ⟨by decide, by decide, ov_ch0 (List.mem_of_getElem? (i := 107) rfl)⟩
theorem lk_State_50 : ov_lSN "OverFirst$State" 50 ov_m62 2 := ⟨lb_62, ov_ch5 (List.mem_of_getElem? (i := 34) rfl), ov_ch3 (List.mem_of_getElem? (i := 6) rfl)⟩
theorem kc_State_54 : Cond.constantLong "OverFirst$State" 54 (Int64.ofInt (-1)) ∈ lw_tbl := ov_ch5 (List.mem_of_getElem? (i := 35) rfl)
theorem lo_Tape_3 : Cond.methodLink "OverFirst$Tape" 3 Lib.objectInit ∈ lw_tbl := ov_ch0 (List.mem_of_getElem? (i := 36) rfl)
theorem fl_Tape_9 : ov_fl "OverFirst$Tape" 9 8 0 := ⟨by decide, by decide, ov_ch0 (List.mem_of_getElem? (i := 37) rfl)⟩
theorem kc_Tape_15 : Cond.constantLong "OverFirst$Tape" 15 (Int64.ofInt 255) ∈ lw_tbl := ov_ch2 (List.mem_of_getElem? (i := 80) rfl)
theorem fl_Tape_17 : ov_fl "OverFirst$Tape" 17 8 1 := ⟨by decide, by decide, ov_ch0 (List.mem_of_getElem? (i := 38) rfl)⟩
theorem fl_Tape_21 : ov_fl "OverFirst$Tape" 21 8 7 := ⟨by decide, by decide, ov_ch0 (List.mem_of_getElem? (i := 49) rfl)⟩
theorem lk_Tape_24 : ov_lV "OverFirst$Tape" 24 ov_m26 0 := ⟨lb_26, ov_ch2 (List.mem_of_getElem? (i := 94) rfl), ov_ch2 (List.mem_of_getElem? (i := 95) rfl), ov_ch2 (List.mem_of_getElem? (i := 96) rfl)⟩
theorem fl_Tape_27 : ov_fl "OverFirst$Tape" 27 8 3 := ⟨by decide, by decide, ov_ch0 (List.mem_of_getElem? (i := 42) rfl)⟩
theorem fl_Tape_30 : ov_fl "OverFirst$Tape" 30 8 6 := ⟨by decide, by decide, ov_ch0 (List.mem_of_getElem? (i := 47) rfl)⟩
theorem fl_Tape_34 : ov_fl "OverFirst$Tape" 34 8 2 := ⟨by decide, by decide, ov_ch0 (List.mem_of_getElem? (i := 41) rfl)⟩
theorem fl_Tape_37 : ov_fl "OverFirst$Tape" 37 8 4 := ⟨by decide, by decide, ov_ch0 (List.mem_of_getElem? (i := 44) rfl)⟩
theorem fl_Tape_40 : ov_fl "OverFirst$Tape" 40 8 5 := ⟨by decide, by decide, ov_ch0 (List.mem_of_getElem? (i := 46) rfl)⟩
theorem lb_27 : ov_lB ov_m27 1 := ⟨ov_ch0 (List.mem_of_getElem? (i := 15) rfl), ov_ch2 (List.mem_of_getElem? (i := 102) rfl), ⟨by decide, by decide⟩, by decide +kernel, by decide⟩
theorem lk_Tape_46 : ov_lV "OverFirst$Tape" 46 ov_m27 1 := ⟨lb_27, ov_ch2 (List.mem_of_getElem? (i := 99) rfl), ov_ch2 (List.mem_of_getElem? (i := 100) rfl), ov_ch2 (List.mem_of_getElem? (i := 101) rfl)⟩
theorem lo_Town_3 : Cond.methodLink "OverFirst$Town" 3 Lib.objectInit ∈ lw_tbl := ov_ch1 (List.mem_of_getElem? (i := 114) rfl)
theorem fl_Town_9 : ov_fl "OverFirst$Town" 9 9 2 := ⟨by decide, by decide, ov_ch1 (List.mem_of_getElem? (i := 121) rfl)⟩
theorem fl_Town_15 : ov_fl "OverFirst$Town" 15 9 3 := ⟨by decide, by decide, ov_ch1 (List.mem_of_getElem? (i := 126) rfl)⟩
theorem fl_Town_18 : ov_fl "OverFirst$Town" 18 9 4 := ⟨by decide, by decide, ov_ch1 (List.mem_of_getElem? (i := 131) rfl)⟩
theorem fl_Town_21 : ov_fl "OverFirst$Town" 21 9 5 := ⟨by decide, by decide, ov_ch1 (List.mem_of_getElem? (i := 135) rfl)⟩
theorem fl_Town_24 : ov_fl "OverFirst$Town" 24 9 6 := ⟨by decide, by decide, ov_ch1 (List.mem_of_getElem? (i := 140) rfl)⟩
theorem fl_Town_27 : ov_fl "OverFirst$Town" 27 9 7 := ⟨by decide, by decide, ov_ch1 (List.mem_of_getElem? (i := 143) rfl)⟩
theorem fl_Town_30 : ov_fl "OverFirst$Town" 30 9 12 := ⟨by decide, by decide, ov_ch1 (List.mem_of_getElem? (i := 167) rfl)⟩
theorem fl_Town_33 : ov_fl "OverFirst$Town" 33 9 13 := ⟨by decide, by decide, ov_ch1 (List.mem_of_getElem? (i := 168) rfl)⟩
theorem fl_Town_37 : ov_fl "OverFirst$Town" 37 9 14 := ⟨by decide, by decide, ov_ch1 (List.mem_of_getElem? (i := 169) rfl)⟩
theorem fl_Town_40 : ov_fl "OverFirst$Town" 40 9 15 := ⟨by decide, by decide, ov_ch1 (List.mem_of_getElem? (i := 170) rfl)⟩
theorem fl_Town_43 : ov_fl "OverFirst$Town" 43 9 17 := ⟨by decide, by decide, ov_ch1 (List.mem_of_getElem? (i := 172) rfl)⟩
theorem fl_Town_46 : ov_fl "OverFirst$Town" 46 9 0 := ⟨by decide, by decide, ov_ch1 (List.mem_of_getElem? (i := 115) rfl)⟩
theorem fl_Town_50 : ov_fl "OverFirst$Town" 50 9 1 := ⟨by decide, by decide, ov_ch1 (List.mem_of_getElem? (i := 118) rfl)⟩
theorem lk_Town_53 : ov_lS "OverFirst$Town" 53 ov_m14 2 := ⟨lb_14, ov_ch2 (List.mem_of_getElem? (i := 2) rfl), ov_ch2 (List.mem_of_getElem? (i := 3) rfl)⟩
theorem fl_Town_59 : ov_fl "OverFirst$Town" 59 9 8 := ⟨by decide, by decide, ov_ch1 (List.mem_of_getElem? (i := 151) rfl)⟩
theorem fl_Town_63 : ov_fl "OverFirst$Town" 63 9 9 := ⟨by decide, by decide, ov_ch1 (List.mem_of_getElem? (i := 155) rfl)⟩
theorem fl_Town_66 : ov_fl "OverFirst$Town" 66 9 10 := ⟨by decide, by decide, ov_ch1 (List.mem_of_getElem? (i := 158) rfl)⟩
theorem fl_Town_69 : ov_fl "OverFirst$Town" 69 9 11 := ⟨by decide, by decide, ov_ch1 (List.mem_of_getElem? (i := 164) rfl)⟩
theorem fl_Town_72 : ov_fl "OverFirst$Town" 72 9 16 := ⟨by decide, by decide, ov_ch1 (List.mem_of_getElem? (i := 171) rfl)⟩
theorem lb_16 : ov_lB ov_m16 2 := ⟨ov_ch0 (List.mem_of_getElem? (i := 11) rfl), ov_ch2 (List.mem_of_getElem? (i := 12) rfl), ⟨by decide, by decide⟩, by decide +kernel, by decide⟩
theorem lk_Town_75 : ov_lV "OverFirst$Town" 75 ov_m16 2 := ⟨lb_16, ov_ch2 (List.mem_of_getElem? (i := 9) rfl), ov_ch2 (List.mem_of_getElem? (i := 11) rfl), List.mem_of_getElem? (i := 0) rfl⟩
theorem lb_17 : ov_lB ov_m17 2 := ⟨ov_ch0 (List.mem_of_getElem? (i := 11) rfl), ov_ch2 (List.mem_of_getElem? (i := 16) rfl), ⟨by decide, by decide⟩, by decide +kernel, by decide⟩
theorem lk_Town_79 : ov_lV "OverFirst$Town" 79 ov_m17 2 := ⟨lb_17, ov_ch2 (List.mem_of_getElem? (i := 13) rfl), ov_ch2 (List.mem_of_getElem? (i := 15) rfl), List.mem_of_getElem? (i := 1) rfl⟩
theorem lk_Town_83 : ov_lV "OverFirst$Town" 83 ov_m18 2 := ⟨lb_18, ov_ch2 (List.mem_of_getElem? (i := 17) rfl), ov_ch2 (List.mem_of_getElem? (i := 18) rfl), ov_ch2 (List.mem_of_getElem? (i := 19) rfl)⟩
theorem lk_Town_86 : ov_lV "OverFirst$Town" 86 ov_m19 2 := ⟨lb_19, ov_ch2 (List.mem_of_getElem? (i := 21) rfl), ov_ch2 (List.mem_of_getElem? (i := 22) rfl), ov_ch2 (List.mem_of_getElem? (i := 23) rfl)⟩
theorem lk_Town_89 : ov_lV "OverFirst$Town" 89 ov_m20 1 := ⟨lb_20, ov_ch2 (List.mem_of_getElem? (i := 25) rfl), ov_ch2 (List.mem_of_getElem? (i := 26) rfl), ov_ch2 (List.mem_of_getElem? (i := 27) rfl)⟩
theorem lk_Town_93 : ov_lS "OverFirst$Town" 93 ov_m34 2 := ⟨lb_34, ov_ch4 (List.mem_of_getElem? (i := 203) rfl), ov_ch2 (List.mem_of_getElem? (i := 128) rfl)⟩
theorem lk_Town_99 : ov_lV "OverFirst$Town" 99 ov_m134 1 := ⟨lb_134, ov_ch4 (List.mem_of_getElem? (i := 204) rfl), ov_ch4 (List.mem_of_getElem? (i := 88) rfl), ov_ch4 (List.mem_of_getElem? (i := 89) rfl)⟩
theorem lk_Town_103 : ov_lS "OverFirst$Town" 103 ov_m100 2 := ⟨lb_100, ov_ch3 (List.mem_of_getElem? (i := 177) rfl), ov_ch3 (List.mem_of_getElem? (i := 178) rfl)⟩
theorem lb_139 : ov_lB ov_m139 2 := ⟨ov_ch0 (List.mem_of_getElem? (i := 11) rfl), ov_ch4 (List.mem_of_getElem? (i := 112) rfl), ⟨by decide, by decide⟩, by decide +kernel, by decide⟩
theorem lk_Town_106 : ov_lV "OverFirst$Town" 106 ov_m139 2 := ⟨lb_139, ov_ch4 (List.mem_of_getElem? (i := 109) rfl), ov_ch4 (List.mem_of_getElem? (i := 111) rfl), List.mem_of_getElem? (i := 42) rfl⟩
theorem lb_140 : ov_lB ov_m140 3 := ⟨ov_ch0 (List.mem_of_getElem? (i := 11) rfl), ov_ch4 (List.mem_of_getElem? (i := 115) rfl), ⟨by decide, by decide⟩, by decide +kernel, by decide⟩
theorem lk_Town_109 : ov_lS "OverFirst$Town" 109 ov_m140 3 := ⟨lb_140, ov_ch4 (List.mem_of_getElem? (i := 113) rfl), ov_ch4 (List.mem_of_getElem? (i := 114) rfl)⟩
theorem lo_Walk_3 : Cond.methodLink "OverFirst$Walk" 3 Lib.objectInit ∈ lw_tbl := ov_ch1 (List.mem_of_getElem? (i := 215) rfl)
theorem fl_Walk_9 : ov_fl "OverFirst$Walk" 9 10 2 := ⟨by decide, by decide, ov_ch1 (List.mem_of_getElem? (i := 222) rfl)⟩
theorem fl_Walk_15 : ov_fl "OverFirst$Walk" 15 10 3 := ⟨by decide, by decide, ov_ch1 (List.mem_of_getElem? (i := 224) rfl)⟩
theorem fl_Walk_18 : ov_fl "OverFirst$Walk" 18 10 4 := ⟨by decide, by decide, ov_ch1 (List.mem_of_getElem? (i := 226) rfl)⟩
theorem fl_Walk_21 : ov_fl "OverFirst$Walk" 21 10 0 := ⟨by decide, by decide, ov_ch1 (List.mem_of_getElem? (i := 216) rfl)⟩
theorem fl_Walk_25 : ov_fl "OverFirst$Walk" 25 10 1 := ⟨by decide, by decide, ov_ch1 (List.mem_of_getElem? (i := 220) rfl)⟩
theorem lb_111 : ov_lB ov_m111 3 := ⟨ov_ch0 (List.mem_of_getElem? (i := 12) rfl), ov_ch3 (List.mem_of_getElem? (i := 225) rfl), ⟨by decide, by decide⟩, by decide +kernel, by decide⟩
theorem lk_Walk_28 : ov_lV "OverFirst$Walk" 28 ov_m111 3 := ⟨lb_111, ov_ch3 (List.mem_of_getElem? (i := 222) rfl), ov_ch3 (List.mem_of_getElem? (i := 224) rfl), List.mem_of_getElem? (i := 28) rfl⟩
theorem fl_Walk_32 : ov_fl "OverFirst$Walk" 32 9 7 := ⟨by decide, by decide, ov_ch1 (List.mem_of_getElem? (i := 148) rfl)⟩
theorem lk_Walk_37 : ov_lV "OverFirst$Walk" 37 ov_m99 3 := ⟨lb_99, ov_ch3 (List.mem_of_getElem? (i := 226) rfl), ov_ch3 (List.mem_of_getElem? (i := 174) rfl), ov_ch3 (List.mem_of_getElem? (i := 175) rfl)⟩
theorem fl_Walk_41 : ov_fl "OverFirst$Walk" 41 9 2 := ⟨by decide, by decide, ov_ch1 (List.mem_of_getElem? (i := 123) rfl)⟩
theorem lo_Wave_3 : Cond.methodLink "OverFirst$Wave" 3 Lib.objectInit ∈ lw_tbl := ov_ch1 (List.mem_of_getElem? (i := 78) rfl)
theorem fl_Wave_11 : ov_fl "OverFirst$Wave" 11 11 1 := ⟨by decide, by decide, ov_ch1 (List.mem_of_getElem? (i := 81) rfl)⟩
theorem fl_Wave_15 : ov_fl "OverFirst$Wave" 15 11 2 := ⟨by decide, by decide, ov_ch1 (List.mem_of_getElem? (i := 83) rfl)⟩
theorem fl_Wave_18 : ov_fl "OverFirst$Wave" 18 11 3 := ⟨by decide, by decide, ov_ch1 (List.mem_of_getElem? (i := 84) rfl)⟩
theorem fl_Wave_22 : ov_fl "OverFirst$Wave" 22 11 8 := ⟨by decide, by decide, ov_ch1 (List.mem_of_getElem? (i := 89) rfl)⟩
theorem lk_Wave_26 : ov_lS "OverFirst$Wave" 26 ov_m35 2 := ⟨lb_35, ov_ch5 (List.mem_of_getElem? (i := 48) rfl), ov_ch2 (List.mem_of_getElem? (i := 131) rfl)⟩
theorem fl_Wave_32 : ov_fl "OverFirst$Wave" 32 11 4 := ⟨by decide, by decide, ov_ch1 (List.mem_of_getElem? (i := 85) rfl)⟩
theorem fl_Wave_35 : ov_fl "OverFirst$Wave" 35 9 3 := ⟨by decide, by decide, ov_ch1 (List.mem_of_getElem? (i := 127) rfl)⟩
theorem fl_Wave_40 : ov_fl "OverFirst$Wave" 40 11 5 := ⟨by decide, by decide, ov_ch1 (List.mem_of_getElem? (i := 86) rfl)⟩
theorem fl_Wave_42 : ov_fl "OverFirst$Wave" 42 9 7 := ⟨by decide, by decide, ov_ch1 (List.mem_of_getElem? (i := 145) rfl)⟩
theorem fl_Wave_45 : ov_fl "OverFirst$Wave" 45 11 6 := ⟨by decide, by decide, ov_ch1 (List.mem_of_getElem? (i := 87) rfl)⟩
theorem fl_Wave_48 : ov_fl "OverFirst$Wave" 48 11 7 := ⟨by decide, by decide, ov_ch1 (List.mem_of_getElem? (i := 88) rfl)⟩
theorem fl_Wave_52 : ov_fl "OverFirst$Wave" 52 9 5 := ⟨by decide, by decide, ov_ch1 (List.mem_of_getElem? (i := 136) rfl)⟩
theorem fl_Wave_55 : ov_fl "OverFirst$Wave" 55 11 0 := ⟨by decide, by decide, ov_ch1 (List.mem_of_getElem? (i := 79) rfl)⟩
theorem fl_Wave_58 : ov_fl "OverFirst$Wave" 58 9 4 := ⟨by decide, by decide, ov_ch1 (List.mem_of_getElem? (i := 132) rfl)⟩
theorem lk_Wave_61 : ov_lSN "OverFirst$Wave" 61 ov_m166 2 := ⟨lb_166, ov_ch5 (List.mem_of_getElem? (i := 49) rfl), ov_ch4 (List.mem_of_getElem? (i := 229) rfl)⟩
theorem lb_179 : ov_lB ov_m179 2 := ⟨ov_ch0 (List.mem_of_getElem? (i := 10) rfl), ov_ch5 (List.mem_of_getElem? (i := 53) rfl), ⟨by decide, by decide⟩, by decide +kernel, by decide⟩
theorem lk_Wave_64 : ov_lV "OverFirst$Wave" 64 ov_m179 2 := ⟨lb_179, ov_ch5 (List.mem_of_getElem? (i := 50) rfl), ov_ch5 (List.mem_of_getElem? (i := 52) rfl), List.mem_of_getElem? (i := 53) rfl⟩
theorem lb_181 : ov_lB ov_m181 2 := ⟨ov_ch0 (List.mem_of_getElem? (i := 10) rfl), ov_ch5 (List.mem_of_getElem? (i := 61) rfl), ⟨by decide, by decide⟩, by decide +kernel, by decide⟩
theorem lk_Wave_68 : ov_lV "OverFirst$Wave" 68 ov_m181 2 := ⟨lb_181, ov_ch5 (List.mem_of_getElem? (i := 58) rfl), ov_ch5 (List.mem_of_getElem? (i := 60) rfl), List.mem_of_getElem? (i := 55) rfl⟩
theorem lb_182 : ov_lB ov_m182 3 := ⟨ov_ch0 (List.mem_of_getElem? (i := 10) rfl), ov_ch5 (List.mem_of_getElem? (i := 65) rfl), ⟨by decide, by decide⟩, by decide +kernel, by decide⟩
theorem lk_Wave_71 : ov_lV "OverFirst$Wave" 71 ov_m182 3 := ⟨lb_182, ov_ch5 (List.mem_of_getElem? (i := 62) rfl), ov_ch5 (List.mem_of_getElem? (i := 64) rfl), List.mem_of_getElem? (i := 56) rfl⟩
theorem lb_183 : ov_lB ov_m183 1 := ⟨ov_ch0 (List.mem_of_getElem? (i := 21) rfl), ov_ch5 (List.mem_of_getElem? (i := 68) rfl), ⟨by decide, by decide⟩, by decide +kernel, by decide⟩
theorem lk_Wave_75 : ov_lS "OverFirst$Wave" 75 ov_m183 1 := ⟨lb_183, ov_ch5 (List.mem_of_getElem? (i := 66) rfl), ov_ch5 (List.mem_of_getElem? (i := 67) rfl)⟩
theorem lb_180 : ov_lB ov_m180 2 := ⟨ov_ch0 (List.mem_of_getElem? (i := 10) rfl), ov_ch5 (List.mem_of_getElem? (i := 57) rfl), ⟨by decide, by decide⟩, by decide +kernel, by decide⟩
theorem lk_Wave_87 : ov_lV "OverFirst$Wave" 87 ov_m180 2 := ⟨lb_180, ov_ch5 (List.mem_of_getElem? (i := 54) rfl), ov_ch5 (List.mem_of_getElem? (i := 56) rfl), List.mem_of_getElem? (i := 54) rfl⟩
theorem lo_Ways_3 : Cond.methodLink "OverFirst$Ways" 3 Lib.objectInit ∈ lw_tbl := ov_ch1 (List.mem_of_getElem? (i := 9) rfl)
theorem fl_Ways_9 : ov_fl "OverFirst$Ways" 9 12 5 := ⟨by decide, by decide, ov_ch1 (List.mem_of_getElem? (i := 17) rfl)⟩
theorem fl_Ways_15 : ov_fl "OverFirst$Ways" 15 12 6 := ⟨by decide, by decide, ov_ch1 (List.mem_of_getElem? (i := 18) rfl)⟩
theorem fl_Ways_18 : ov_fl "OverFirst$Ways" 18 12 3 := ⟨by decide, by decide, ov_ch1 (List.mem_of_getElem? (i := 15) rfl)⟩
theorem lk_Ways_22 : ov_lS "OverFirst$Ways" 22 ov_m14 2 := ⟨lb_14, ov_ch3 (List.mem_of_getElem? (i := 239) rfl), ov_ch2 (List.mem_of_getElem? (i := 3) rfl)⟩
theorem lk_Ways_28 : ov_lV "OverFirst$Ways" 28 ov_m115 0 := ⟨lb_115, ov_ch4 (List.mem_of_getElem? (i := 0) rfl), ov_ch4 (List.mem_of_getElem? (i := 1) rfl), ov_ch4 (List.mem_of_getElem? (i := 2) rfl)⟩
theorem lb_116 : ov_lB ov_m116 2 := ⟨ov_ch0 (List.mem_of_getElem? (i := 8) rfl), ov_ch4 (List.mem_of_getElem? (i := 7) rfl), ⟨by decide, by decide⟩, by decide +kernel, by decide⟩
theorem lk_Ways_34 : ov_lV "OverFirst$Ways" 34 ov_m116 2 := ⟨lb_116, ov_ch4 (List.mem_of_getElem? (i := 4) rfl), ov_ch4 (List.mem_of_getElem? (i := 6) rfl), List.mem_of_getElem? (i := 29) rfl⟩
theorem lk_Ways_38 : ov_lV "OverFirst$Ways" 38 ov_m98 2 := ⟨lb_98, ov_ch4 (List.mem_of_getElem? (i := 8) rfl), ov_ch3 (List.mem_of_getElem? (i := 170) rfl), ov_ch3 (List.mem_of_getElem? (i := 171) rfl)⟩
theorem lk_Ways_42 : ov_lV "OverFirst$Ways" 42 ov_m91 2 := ⟨lb_91, ov_ch4 (List.mem_of_getElem? (i := 9) rfl), ov_ch3 (List.mem_of_getElem? (i := 142) rfl), ov_ch3 (List.mem_of_getElem? (i := 143) rfl)⟩
theorem lb_117 : ov_lB ov_m117 3 := ⟨ov_ch0 (List.mem_of_getElem? (i := 8) rfl), ov_ch4 (List.mem_of_getElem? (i := 13) rfl), ⟨by decide, by decide⟩, by decide +kernel, by decide⟩
theorem lk_Ways_46 : ov_lV "OverFirst$Ways" 46 ov_m117 3 := ⟨lb_117, ov_ch4 (List.mem_of_getElem? (i := 10) rfl), ov_ch4 (List.mem_of_getElem? (i := 12) rfl), List.mem_of_getElem? (i := 30) rfl⟩
theorem lk_Ways_50 : ov_lSN "OverFirst$Ways" 50 ov_m118 2 := ⟨lb_118, ov_ch4 (List.mem_of_getElem? (i := 15) rfl), ov_ch4 (List.mem_of_getElem? (i := 16) rfl)⟩
theorem lk_Ways_53 : ov_lV "OverFirst$Ways" 53 ov_m99 3 := ⟨lb_99, ov_ch4 (List.mem_of_getElem? (i := 14) rfl), ov_ch3 (List.mem_of_getElem? (i := 174) rfl), ov_ch3 (List.mem_of_getElem? (i := 175) rfl)⟩
theorem fl_Ways_56 : ov_fl "OverFirst$Ways" 56 9 7 := ⟨by decide, by decide, ov_ch1 (List.mem_of_getElem? (i := 147) rfl)⟩
theorem lk_Ways_59 : ov_lV "OverFirst$Ways" 59 ov_m114 3 := ⟨lb_114, ov_ch3 (List.mem_of_getElem? (i := 235) rfl), ov_ch3 (List.mem_of_getElem? (i := 236) rfl), ov_ch3 (List.mem_of_getElem? (i := 237) rfl)⟩
theorem lb_119 : ov_lB ov_m119 3 := ⟨ov_ch0 (List.mem_of_getElem? (i := 8) rfl), ov_ch4 (List.mem_of_getElem? (i := 21) rfl), ⟨by decide, by decide⟩, by decide +kernel, by decide⟩
theorem lk_Ways_63 : ov_lV "OverFirst$Ways" 63 ov_m119 3 := ⟨lb_119, ov_ch4 (List.mem_of_getElem? (i := 18) rfl), ov_ch4 (List.mem_of_getElem? (i := 20) rfl), List.mem_of_getElem? (i := 31) rfl⟩
theorem fl_Ways_67 : ov_fl "OverFirst$Ways" 67 9 10 := ⟨by decide, by decide, ov_ch1 (List.mem_of_getElem? (i := 161) rfl)⟩
theorem lb_153 : ov_lB ov_m153 4 := ⟨ov_ch0 (List.mem_of_getElem? (i := 8) rfl), ov_ch4 (List.mem_of_getElem? (i := 174) rfl), ⟨by decide, by decide⟩, by decide +kernel, by decide⟩
theorem lk_Ways_71 : ov_lV "OverFirst$Ways" 71 ov_m153 4 := ⟨lb_153, ov_ch4 (List.mem_of_getElem? (i := 171) rfl), ov_ch4 (List.mem_of_getElem? (i := 173) rfl), List.mem_of_getElem? (i := 43) rfl⟩
theorem lb_155 : ov_lB ov_m155 3 := ⟨ov_ch0 (List.mem_of_getElem? (i := 8) rfl), ov_ch4 (List.mem_of_getElem? (i := 181) rfl), ⟨by decide, by decide⟩, by decide +kernel, by decide⟩
theorem lk_Ways_75 : ov_lV "OverFirst$Ways" 75 ov_m155 3 := ⟨lb_155, ov_ch4 (List.mem_of_getElem? (i := 178) rfl), ov_ch4 (List.mem_of_getElem? (i := 180) rfl), List.mem_of_getElem? (i := 44) rfl⟩
theorem lb_154 : ov_lB ov_m154 3 := ⟨ov_ch0 (List.mem_of_getElem? (i := 8) rfl), ov_ch4 (List.mem_of_getElem? (i := 177) rfl), ⟨by decide, by decide⟩, by decide +kernel, by decide⟩
theorem lk_Ways_79 : ov_lS "OverFirst$Ways" 79 ov_m154 3 := ⟨lb_154, ov_ch4 (List.mem_of_getElem? (i := 175) rfl), ov_ch4 (List.mem_of_getElem? (i := 176) rfl)⟩
theorem fl_Ways_82 : ov_fl "OverFirst$Ways" 82 12 4 := ⟨by decide, by decide, ov_ch1 (List.mem_of_getElem? (i := 16) rfl)⟩
theorem fl_Ways_86 : ov_fl "OverFirst$Ways" 86 12 0 := ⟨by decide, by decide, ov_ch1 (List.mem_of_getElem? (i := 10) rfl)⟩
theorem fl_Ways_89 : ov_fl "OverFirst$Ways" 89 12 1 := ⟨by decide, by decide, ov_ch1 (List.mem_of_getElem? (i := 12) rfl)⟩
theorem kc_Ways_93 : Cond.constantLong "OverFirst$Ways" 93 (Int64.ofInt (-1)) ∈ lw_tbl := ov_ch5 (List.mem_of_getElem? (i := 95) rfl)
theorem fl_Ways_95 : ov_fl "OverFirst$Ways" 95 12 2 := ⟨by decide, by decide, ov_ch1 (List.mem_of_getElem? (i := 14) rfl)⟩
theorem lb_189 : ov_lB ov_m189 6 := ⟨ov_ch0 (List.mem_of_getElem? (i := 8) rfl), ov_ch5 (List.mem_of_getElem? (i := 99) rfl), ⟨by decide, by decide⟩, by decide +kernel, by decide⟩
theorem lk_Ways_97 : ov_lV "OverFirst$Ways" 97 ov_m189 6 := ⟨lb_189, ov_ch5 (List.mem_of_getElem? (i := 96) rfl), ov_ch5 (List.mem_of_getElem? (i := 98) rfl), List.mem_of_getElem? (i := 57) rfl⟩
theorem kc_Ways_101 : Cond.constant "OverFirst$Ways" 101 (Int32.ofInt 2147483647) ∈ lw_tbl := ov_ch5 (List.mem_of_getElem? (i := 100) rfl)
theorem lb_190 : ov_lB ov_m190 3 := ⟨ov_ch0 (List.mem_of_getElem? (i := 4) rfl), ov_ch5 (List.mem_of_getElem? (i := 104) rfl), ⟨by decide, by decide⟩, by decide +kernel, by decide⟩
theorem lk_Ways_102 : ov_lV "OverFirst$Ways" 102 ov_m190 3 := ⟨lb_190, ov_ch5 (List.mem_of_getElem? (i := 101) rfl), ov_ch5 (List.mem_of_getElem? (i := 102) rfl), ov_ch5 (List.mem_of_getElem? (i := 103) rfl)⟩
theorem fl_Ways_107 : ov_fl "OverFirst$Ways" 107 7 5 := ⟨by decide, by decide, ov_ch0 (List.mem_of_getElem? (i := 108) rfl)⟩
theorem kc_Ways_110 : Cond.constantLong "OverFirst$Ways" 110 (Int64.ofInt 63) ∈ lw_tbl := ov_ch5 (List.mem_of_getElem? (i := 109) rfl)
theorem nl_Law_7 : ov_nl "OverFirstLaw" 7 0 := ⟨by decide, ov_ch0 (List.mem_of_getElem? (i := 23) rfl), ov_ch0 (List.mem_of_getElem? (i := 24) rfl), ov_ch0 (List.mem_of_getElem? (i := 1) rfl)⟩
theorem lb_0 : ov_lB ov_m0 0 := ⟨ov_ch0 (List.mem_of_getElem? (i := 1) rfl), ov_ch0 (List.mem_of_getElem? (i := 27) rfl), ⟨by decide, by decide⟩, by decide +kernel, by decide⟩
theorem lk_Law_9 : ov_lI "OverFirstLaw" 9 ov_m0 0 := ⟨lb_0, ov_ch0 (List.mem_of_getElem? (i := 25) rfl), ov_ch0 (List.mem_of_getElem? (i := 26) rfl), rfl⟩
theorem nl_Law_10 : ov_nl "OverFirstLaw" 10 1 := ⟨by decide, ov_ch5 (List.mem_of_getElem? (i := 157) rfl), ov_ch5 (List.mem_of_getElem? (i := 155) rfl), ov_ch0 (List.mem_of_getElem? (i := 14) rfl)⟩
theorem lb_202 : ov_lB ov_m202 0 := ⟨ov_ch0 (List.mem_of_getElem? (i := 14) rfl), ov_ch5 (List.mem_of_getElem? (i := 160) rfl), ⟨by decide, by decide⟩, by decide +kernel, by decide⟩
theorem lk_Law_12 : ov_lI "OverFirstLaw" 12 ov_m202 0 := ⟨lb_202, ov_ch5 (List.mem_of_getElem? (i := 158) rfl), ov_ch5 (List.mem_of_getElem? (i := 159) rfl), rfl⟩
theorem kc_Law_13 : Cond.constantLong "OverFirstLaw" 13 (Int64.ofInt 4294967295) ∈ lw_tbl := ov_ch8 (List.mem_of_getElem? (i := 54) rfl)
theorem lb_21 : ov_lB ov_m21 3 := ⟨ov_ch0 (List.mem_of_getElem? (i := 1) rfl), ov_ch2 (List.mem_of_getElem? (i := 75) rfl), ⟨by decide, by decide⟩, by decide +kernel, by decide⟩
theorem lk_Law_15 : ov_lV "OverFirstLaw" 15 ov_m21 3 := ⟨lb_21, ov_ch2 (List.mem_of_getElem? (i := 72) rfl), ov_ch2 (List.mem_of_getElem? (i := 73) rfl), ov_ch2 (List.mem_of_getElem? (i := 74) rfl)⟩
theorem lb_200 : ov_lB ov_m200 3 := ⟨ov_ch0 (List.mem_of_getElem? (i := 14) rfl), ov_ch5 (List.mem_of_getElem? (i := 151) rfl), ⟨by decide, by decide⟩, by decide +kernel, by decide⟩
theorem lk_Law_19 : ov_lV "OverFirstLaw" 19 ov_m200 3 := ⟨lb_200, ov_ch5 (List.mem_of_getElem? (i := 148) rfl), ov_ch5 (List.mem_of_getElem? (i := 149) rfl), ov_ch5 (List.mem_of_getElem? (i := 150) rfl)⟩
theorem lb_23 : ov_lB ov_m23 0 := ⟨ov_ch0 (List.mem_of_getElem? (i := 1) rfl), ov_ch2 (List.mem_of_getElem? (i := 84) rfl), ⟨by decide, by decide⟩, by decide +kernel, by decide⟩
theorem lk_Law_20 : ov_lV "OverFirstLaw" 20 ov_m23 0 := ⟨lb_23, ov_ch2 (List.mem_of_getElem? (i := 81) rfl), ov_ch2 (List.mem_of_getElem? (i := 82) rfl), ov_ch2 (List.mem_of_getElem? (i := 83) rfl)⟩
theorem lb_205 : ov_lB ov_m205 0 := ⟨ov_ch0 (List.mem_of_getElem? (i := 14) rfl), ov_ch6 (List.mem_of_getElem? (i := 102) rfl), ⟨by decide, by decide⟩, by decide +kernel, by decide⟩
theorem lk_Law_24 : ov_lV "OverFirstLaw" 24 ov_m205 0 := ⟨lb_205, ov_ch6 (List.mem_of_getElem? (i := 99) rfl), ov_ch6 (List.mem_of_getElem? (i := 100) rfl), ov_ch6 (List.mem_of_getElem? (i := 101) rfl)⟩
theorem lb_88 : ov_lB ov_m88 0 := ⟨ov_ch0 (List.mem_of_getElem? (i := 1) rfl), ov_ch3 (List.mem_of_getElem? (i := 130) rfl), ⟨by decide, by decide⟩, by decide +kernel, by decide⟩
theorem lk_Law_25 : ov_lV "OverFirstLaw" 25 ov_m88 0 := ⟨lb_88, ov_ch3 (List.mem_of_getElem? (i := 127) rfl), ov_ch3 (List.mem_of_getElem? (i := 128) rfl), ov_ch3 (List.mem_of_getElem? (i := 129) rfl)⟩
theorem lb_234 : ov_lB ov_m234 0 := ⟨ov_ch0 (List.mem_of_getElem? (i := 14) rfl), ov_ch6 (List.mem_of_getElem? (i := 216) rfl), ⟨by decide, by decide⟩, by decide +kernel, by decide⟩
theorem lk_Law_28 : ov_lV "OverFirstLaw" 28 ov_m234 0 := ⟨lb_234, ov_ch6 (List.mem_of_getElem? (i := 213) rfl), ov_ch6 (List.mem_of_getElem? (i := 214) rfl), ov_ch6 (List.mem_of_getElem? (i := 215) rfl)⟩
theorem lb_93 : ov_lB ov_m93 3 := ⟨ov_ch0 (List.mem_of_getElem? (i := 1) rfl), ov_ch3 (List.mem_of_getElem? (i := 152) rfl), ⟨by decide, by decide⟩, by decide +kernel, by decide⟩
theorem lk_Law_29 : ov_lV "OverFirstLaw" 29 ov_m93 3 := ⟨lb_93, ov_ch3 (List.mem_of_getElem? (i := 149) rfl), ov_ch3 (List.mem_of_getElem? (i := 150) rfl), ov_ch3 (List.mem_of_getElem? (i := 151) rfl)⟩
theorem lb_239 : ov_lB ov_m239 3 := ⟨ov_ch0 (List.mem_of_getElem? (i := 14) rfl), ov_ch6 (List.mem_of_getElem? (i := 236) rfl), ⟨by decide, by decide⟩, by decide +kernel, by decide⟩
theorem lk_Law_33 : ov_lV "OverFirstLaw" 33 ov_m239 3 := ⟨lb_239, ov_ch6 (List.mem_of_getElem? (i := 233) rfl), ov_ch6 (List.mem_of_getElem? (i := 234) rfl), ov_ch6 (List.mem_of_getElem? (i := 235) rfl)⟩
theorem lb_96 : ov_lB ov_m96 4 := ⟨ov_ch0 (List.mem_of_getElem? (i := 1) rfl), ov_ch3 (List.mem_of_getElem? (i := 164) rfl), ⟨by decide, by decide⟩, by decide +kernel, by decide⟩
theorem lk_Law_34 : ov_lV "OverFirstLaw" 34 ov_m96 4 := ⟨lb_96, ov_ch3 (List.mem_of_getElem? (i := 161) rfl), ov_ch3 (List.mem_of_getElem? (i := 162) rfl), ov_ch3 (List.mem_of_getElem? (i := 163) rfl)⟩
theorem lb_245 : ov_lB ov_m245 4 := ⟨ov_ch0 (List.mem_of_getElem? (i := 14) rfl), ov_ch7 (List.mem_of_getElem? (i := 19) rfl), ⟨by decide, by decide⟩, by decide +kernel, by decide⟩
theorem lk_Law_38 : ov_lV "OverFirstLaw" 38 ov_m245 4 := ⟨lb_245, ov_ch7 (List.mem_of_getElem? (i := 16) rfl), ov_ch7 (List.mem_of_getElem? (i := 17) rfl), ov_ch7 (List.mem_of_getElem? (i := 18) rfl)⟩
theorem lb_101 : ov_lB ov_m101 4 := ⟨ov_ch0 (List.mem_of_getElem? (i := 1) rfl), ov_ch3 (List.mem_of_getElem? (i := 183) rfl), ⟨by decide, by decide⟩, by decide +kernel, by decide⟩
theorem lk_Law_39 : ov_lV "OverFirstLaw" 39 ov_m101 4 := ⟨lb_101, ov_ch3 (List.mem_of_getElem? (i := 180) rfl), ov_ch3 (List.mem_of_getElem? (i := 181) rfl), ov_ch3 (List.mem_of_getElem? (i := 182) rfl)⟩
theorem lb_251 : ov_lB ov_m251 4 := ⟨ov_ch0 (List.mem_of_getElem? (i := 14) rfl), ov_ch7 (List.mem_of_getElem? (i := 44) rfl), ⟨by decide, by decide⟩, by decide +kernel, by decide⟩
theorem lk_Law_42 : ov_lV "OverFirstLaw" 42 ov_m251 4 := ⟨lb_251, ov_ch7 (List.mem_of_getElem? (i := 41) rfl), ov_ch7 (List.mem_of_getElem? (i := 42) rfl), ov_ch7 (List.mem_of_getElem? (i := 43) rfl)⟩
theorem lb_102 : ov_lB ov_m102 2 := ⟨ov_ch0 (List.mem_of_getElem? (i := 1) rfl), ov_ch3 (List.mem_of_getElem? (i := 187) rfl), ⟨by decide, by decide⟩, by decide +kernel, by decide⟩
theorem lk_Law_43 : ov_lV "OverFirstLaw" 43 ov_m102 2 := ⟨lb_102, ov_ch3 (List.mem_of_getElem? (i := 184) rfl), ov_ch3 (List.mem_of_getElem? (i := 185) rfl), ov_ch3 (List.mem_of_getElem? (i := 186) rfl)⟩
theorem lb_253 : ov_lB ov_m253 2 := ⟨ov_ch0 (List.mem_of_getElem? (i := 14) rfl), ov_ch7 (List.mem_of_getElem? (i := 52) rfl), ⟨by decide, by decide⟩, by decide +kernel, by decide⟩
theorem lk_Law_47 : ov_lV "OverFirstLaw" 47 ov_m253 2 := ⟨lb_253, ov_ch7 (List.mem_of_getElem? (i := 49) rfl), ov_ch7 (List.mem_of_getElem? (i := 50) rfl), ov_ch7 (List.mem_of_getElem? (i := 51) rfl)⟩
theorem lb_105 : ov_lB ov_m105 1 := ⟨ov_ch0 (List.mem_of_getElem? (i := 1) rfl), ov_ch3 (List.mem_of_getElem? (i := 201) rfl), ⟨by decide, by decide⟩, by decide +kernel, by decide⟩
theorem lk_Law_48 : ov_lV "OverFirstLaw" 48 ov_m105 1 := ⟨lb_105, ov_ch3 (List.mem_of_getElem? (i := 198) rfl), ov_ch3 (List.mem_of_getElem? (i := 199) rfl), ov_ch3 (List.mem_of_getElem? (i := 200) rfl)⟩
theorem lb_257 : ov_lB ov_m257 1 := ⟨ov_ch0 (List.mem_of_getElem? (i := 14) rfl), ov_ch7 (List.mem_of_getElem? (i := 68) rfl), ⟨by decide, by decide⟩, by decide +kernel, by decide⟩
theorem lk_Law_52 : ov_lV "OverFirstLaw" 52 ov_m257 1 := ⟨lb_257, ov_ch7 (List.mem_of_getElem? (i := 65) rfl), ov_ch7 (List.mem_of_getElem? (i := 66) rfl), ov_ch7 (List.mem_of_getElem? (i := 67) rfl)⟩
theorem lb_106 : ov_lB ov_m106 0 := ⟨ov_ch0 (List.mem_of_getElem? (i := 1) rfl), ov_ch3 (List.mem_of_getElem? (i := 205) rfl), ⟨by decide, by decide⟩, by decide +kernel, by decide⟩
theorem lk_Law_53 : ov_lV "OverFirstLaw" 53 ov_m106 0 := ⟨lb_106, ov_ch3 (List.mem_of_getElem? (i := 202) rfl), ov_ch3 (List.mem_of_getElem? (i := 203) rfl), ov_ch3 (List.mem_of_getElem? (i := 204) rfl)⟩
theorem lb_258 : ov_lB ov_m258 0 := ⟨ov_ch0 (List.mem_of_getElem? (i := 14) rfl), ov_ch7 (List.mem_of_getElem? (i := 72) rfl), ⟨by decide, by decide⟩, by decide +kernel, by decide⟩
theorem lk_Law_57 : ov_lV "OverFirstLaw" 57 ov_m258 0 := ⟨lb_258, ov_ch7 (List.mem_of_getElem? (i := 69) rfl), ov_ch7 (List.mem_of_getElem? (i := 70) rfl), ov_ch7 (List.mem_of_getElem? (i := 71) rfl)⟩
theorem lb_107 : ov_lB ov_m107 0 := ⟨ov_ch0 (List.mem_of_getElem? (i := 1) rfl), ov_ch3 (List.mem_of_getElem? (i := 209) rfl), ⟨by decide, by decide⟩, by decide +kernel, by decide⟩
theorem lk_Law_58 : ov_lV "OverFirstLaw" 58 ov_m107 0 := ⟨lb_107, ov_ch3 (List.mem_of_getElem? (i := 206) rfl), ov_ch3 (List.mem_of_getElem? (i := 207) rfl), ov_ch3 (List.mem_of_getElem? (i := 208) rfl)⟩
theorem lb_259 : ov_lB ov_m259 0 := ⟨ov_ch0 (List.mem_of_getElem? (i := 14) rfl), ov_ch7 (List.mem_of_getElem? (i := 76) rfl), ⟨by decide, by decide⟩, by decide +kernel, by decide⟩
theorem lk_Law_61 : ov_lV "OverFirstLaw" 61 ov_m259 0 := ⟨lb_259, ov_ch7 (List.mem_of_getElem? (i := 73) rfl), ov_ch7 (List.mem_of_getElem? (i := 74) rfl), ov_ch7 (List.mem_of_getElem? (i := 75) rfl)⟩
theorem lb_109 : ov_lB ov_m109 0 := ⟨ov_ch0 (List.mem_of_getElem? (i := 1) rfl), ov_ch3 (List.mem_of_getElem? (i := 217) rfl), ⟨by decide, by decide⟩, by decide +kernel, by decide⟩
theorem lk_Law_62 : ov_lV "OverFirstLaw" 62 ov_m109 0 := ⟨lb_109, ov_ch3 (List.mem_of_getElem? (i := 214) rfl), ov_ch3 (List.mem_of_getElem? (i := 215) rfl), ov_ch3 (List.mem_of_getElem? (i := 216) rfl)⟩
theorem lb_260 : ov_lB ov_m260 0 := ⟨ov_ch0 (List.mem_of_getElem? (i := 14) rfl), ov_ch7 (List.mem_of_getElem? (i := 80) rfl), ⟨by decide, by decide⟩, by decide +kernel, by decide⟩
theorem lk_Law_65 : ov_lV "OverFirstLaw" 65 ov_m260 0 := ⟨lb_260, ov_ch7 (List.mem_of_getElem? (i := 77) rfl), ov_ch7 (List.mem_of_getElem? (i := 78) rfl), ov_ch7 (List.mem_of_getElem? (i := 79) rfl)⟩
theorem lb_112 : ov_lB ov_m112 4 := ⟨ov_ch0 (List.mem_of_getElem? (i := 1) rfl), ov_ch3 (List.mem_of_getElem? (i := 230) rfl), ⟨by decide, by decide⟩, by decide +kernel, by decide⟩
theorem lk_Law_66 : ov_lV "OverFirstLaw" 66 ov_m112 4 := ⟨lb_112, ov_ch3 (List.mem_of_getElem? (i := 227) rfl), ov_ch3 (List.mem_of_getElem? (i := 228) rfl), ov_ch3 (List.mem_of_getElem? (i := 229) rfl)⟩
theorem lb_261 : ov_lB ov_m261 4 := ⟨ov_ch0 (List.mem_of_getElem? (i := 14) rfl), ov_ch7 (List.mem_of_getElem? (i := 84) rfl), ⟨by decide, by decide⟩, by decide +kernel, by decide⟩
theorem lk_Law_69 : ov_lV "OverFirstLaw" 69 ov_m261 4 := ⟨lb_261, ov_ch7 (List.mem_of_getElem? (i := 81) rfl), ov_ch7 (List.mem_of_getElem? (i := 82) rfl), ov_ch7 (List.mem_of_getElem? (i := 83) rfl)⟩
theorem lk_Law_70 : ov_lV "OverFirstLaw" 70 ov_m120 4 := ⟨lb_120, ov_ch4 (List.mem_of_getElem? (i := 23) rfl), ov_ch4 (List.mem_of_getElem? (i := 24) rfl), ov_ch4 (List.mem_of_getElem? (i := 25) rfl)⟩
theorem lb_268 : ov_lB ov_m268 4 := ⟨ov_ch0 (List.mem_of_getElem? (i := 14) rfl), ov_ch7 (List.mem_of_getElem? (i := 113) rfl), ⟨by decide, by decide⟩, by decide +kernel, by decide⟩
theorem lk_Law_73 : ov_lV "OverFirstLaw" 73 ov_m268 4 := ⟨lb_268, ov_ch7 (List.mem_of_getElem? (i := 110) rfl), ov_ch7 (List.mem_of_getElem? (i := 111) rfl), ov_ch7 (List.mem_of_getElem? (i := 112) rfl)⟩
theorem lb_142 : ov_lB ov_m142 4 := ⟨ov_ch0 (List.mem_of_getElem? (i := 1) rfl), ov_ch4 (List.mem_of_getElem? (i := 125) rfl), ⟨by decide, by decide⟩, by decide +kernel, by decide⟩
theorem lk_Law_74 : ov_lV "OverFirstLaw" 74 ov_m142 4 := ⟨lb_142, ov_ch4 (List.mem_of_getElem? (i := 122) rfl), ov_ch4 (List.mem_of_getElem? (i := 123) rfl), ov_ch4 (List.mem_of_getElem? (i := 124) rfl)⟩
theorem lb_280 : ov_lB ov_m280 4 := ⟨ov_ch0 (List.mem_of_getElem? (i := 14) rfl), ov_ch7 (List.mem_of_getElem? (i := 160) rfl), ⟨by decide, by decide⟩, by decide +kernel, by decide⟩
theorem lk_Law_77 : ov_lV "OverFirstLaw" 77 ov_m280 4 := ⟨lb_280, ov_ch7 (List.mem_of_getElem? (i := 157) rfl), ov_ch7 (List.mem_of_getElem? (i := 158) rfl), ov_ch7 (List.mem_of_getElem? (i := 159) rfl)⟩
theorem lb_143 : ov_lB ov_m143 4 := ⟨ov_ch0 (List.mem_of_getElem? (i := 1) rfl), ov_ch4 (List.mem_of_getElem? (i := 129) rfl), ⟨by decide, by decide⟩, by decide +kernel, by decide⟩
theorem lk_Law_78 : ov_lV "OverFirstLaw" 78 ov_m143 4 := ⟨lb_143, ov_ch4 (List.mem_of_getElem? (i := 126) rfl), ov_ch4 (List.mem_of_getElem? (i := 127) rfl), ov_ch4 (List.mem_of_getElem? (i := 128) rfl)⟩
theorem lb_281 : ov_lB ov_m281 4 := ⟨ov_ch0 (List.mem_of_getElem? (i := 14) rfl), ov_ch7 (List.mem_of_getElem? (i := 164) rfl), ⟨by decide, by decide⟩, by decide +kernel, by decide⟩
theorem lk_Law_81 : ov_lV "OverFirstLaw" 81 ov_m281 4 := ⟨lb_281, ov_ch7 (List.mem_of_getElem? (i := 161) rfl), ov_ch7 (List.mem_of_getElem? (i := 162) rfl), ov_ch7 (List.mem_of_getElem? (i := 163) rfl)⟩
theorem lb_145 : ov_lB ov_m145 3 := ⟨ov_ch0 (List.mem_of_getElem? (i := 1) rfl), ov_ch4 (List.mem_of_getElem? (i := 139) rfl), ⟨by decide, by decide⟩, by decide +kernel, by decide⟩
theorem lk_Law_82 : ov_lV "OverFirstLaw" 82 ov_m145 3 := ⟨lb_145, ov_ch4 (List.mem_of_getElem? (i := 136) rfl), ov_ch4 (List.mem_of_getElem? (i := 137) rfl), ov_ch4 (List.mem_of_getElem? (i := 138) rfl)⟩
theorem lb_282 : ov_lB ov_m282 3 := ⟨ov_ch0 (List.mem_of_getElem? (i := 14) rfl), ov_ch7 (List.mem_of_getElem? (i := 168) rfl), ⟨by decide, by decide⟩, by decide +kernel, by decide⟩
theorem lk_Law_85 : ov_lV "OverFirstLaw" 85 ov_m282 3 := ⟨lb_282, ov_ch7 (List.mem_of_getElem? (i := 165) rfl), ov_ch7 (List.mem_of_getElem? (i := 166) rfl), ov_ch7 (List.mem_of_getElem? (i := 167) rfl)⟩
theorem lb_146 : ov_lB ov_m146 3 := ⟨ov_ch0 (List.mem_of_getElem? (i := 1) rfl), ov_ch4 (List.mem_of_getElem? (i := 144) rfl), ⟨by decide, by decide⟩, by decide +kernel, by decide⟩
theorem lk_Law_86 : ov_lV "OverFirstLaw" 86 ov_m146 3 := ⟨lb_146, ov_ch4 (List.mem_of_getElem? (i := 141) rfl), ov_ch4 (List.mem_of_getElem? (i := 142) rfl), ov_ch4 (List.mem_of_getElem? (i := 143) rfl)⟩
theorem lk_Law_89 : ov_lV "OverFirstLaw" 89 ov_m283 3 := ⟨lb_283, ov_ch7 (List.mem_of_getElem? (i := 169) rfl), ov_ch7 (List.mem_of_getElem? (i := 170) rfl), ov_ch7 (List.mem_of_getElem? (i := 171) rfl)⟩
theorem lb_149 : ov_lB ov_m149 3 := ⟨ov_ch0 (List.mem_of_getElem? (i := 1) rfl), ov_ch4 (List.mem_of_getElem? (i := 158) rfl), ⟨by decide, by decide⟩, by decide +kernel, by decide⟩
theorem lk_Law_90 : ov_lV "OverFirstLaw" 90 ov_m149 3 := ⟨lb_149, ov_ch4 (List.mem_of_getElem? (i := 155) rfl), ov_ch4 (List.mem_of_getElem? (i := 156) rfl), ov_ch4 (List.mem_of_getElem? (i := 157) rfl)⟩
theorem lb_265 : ov_lB ov_m265 3 := ⟨ov_ch0 (List.mem_of_getElem? (i := 14) rfl), ov_ch7 (List.mem_of_getElem? (i := 101) rfl), ⟨by decide, by decide⟩, by decide +kernel, by decide⟩
theorem lk_Law_93 : ov_lV "OverFirstLaw" 93 ov_m265 3 := ⟨lb_265, ov_ch7 (List.mem_of_getElem? (i := 98) rfl), ov_ch7 (List.mem_of_getElem? (i := 99) rfl), ov_ch7 (List.mem_of_getElem? (i := 100) rfl)⟩
theorem lb_151 : ov_lB ov_m151 2 := ⟨ov_ch0 (List.mem_of_getElem? (i := 1) rfl), ov_ch4 (List.mem_of_getElem? (i := 166) rfl), ⟨by decide, by decide⟩, by decide +kernel, by decide⟩
theorem lk_Law_94 : ov_lV "OverFirstLaw" 94 ov_m151 2 := ⟨lb_151, ov_ch4 (List.mem_of_getElem? (i := 163) rfl), ov_ch4 (List.mem_of_getElem? (i := 164) rfl), ov_ch4 (List.mem_of_getElem? (i := 165) rfl)⟩
theorem lb_266 : ov_lB ov_m266 2 := ⟨ov_ch0 (List.mem_of_getElem? (i := 14) rfl), ov_ch7 (List.mem_of_getElem? (i := 105) rfl), ⟨by decide, by decide⟩, by decide +kernel, by decide⟩
theorem lk_Law_98 : ov_lV "OverFirstLaw" 98 ov_m266 2 := ⟨lb_266, ov_ch7 (List.mem_of_getElem? (i := 102) rfl), ov_ch7 (List.mem_of_getElem? (i := 103) rfl), ov_ch7 (List.mem_of_getElem? (i := 104) rfl)⟩
theorem lb_156 : ov_lB ov_m156 1 := ⟨ov_ch0 (List.mem_of_getElem? (i := 1) rfl), ov_ch4 (List.mem_of_getElem? (i := 185) rfl), ⟨by decide, by decide⟩, by decide +kernel, by decide⟩
theorem lk_Law_99 : ov_lV "OverFirstLaw" 99 ov_m156 1 := ⟨lb_156, ov_ch4 (List.mem_of_getElem? (i := 182) rfl), ov_ch4 (List.mem_of_getElem? (i := 183) rfl), ov_ch4 (List.mem_of_getElem? (i := 184) rfl)⟩
theorem lb_284 : ov_lB ov_m284 1 := ⟨ov_ch0 (List.mem_of_getElem? (i := 14) rfl), ov_ch7 (List.mem_of_getElem? (i := 176) rfl), ⟨by decide, by decide⟩, by decide +kernel, by decide⟩
theorem lk_Law_102 : ov_lV "OverFirstLaw" 102 ov_m284 1 := ⟨lb_284, ov_ch7 (List.mem_of_getElem? (i := 173) rfl), ov_ch7 (List.mem_of_getElem? (i := 174) rfl), ov_ch7 (List.mem_of_getElem? (i := 175) rfl)⟩
theorem lb_158 : ov_lB ov_m158 3 := ⟨ov_ch0 (List.mem_of_getElem? (i := 1) rfl), ov_ch4 (List.mem_of_getElem? (i := 194) rfl), ⟨by decide, by decide⟩, by decide +kernel, by decide⟩
theorem lk_Law_103 : ov_lV "OverFirstLaw" 103 ov_m158 3 := ⟨lb_158, ov_ch4 (List.mem_of_getElem? (i := 191) rfl), ov_ch4 (List.mem_of_getElem? (i := 192) rfl), ov_ch4 (List.mem_of_getElem? (i := 193) rfl)⟩
theorem lb_286 : ov_lB ov_m286 3 := ⟨ov_ch0 (List.mem_of_getElem? (i := 14) rfl), ov_ch7 (List.mem_of_getElem? (i := 185) rfl), ⟨by decide, by decide⟩, by decide +kernel, by decide⟩
theorem lk_Law_106 : ov_lV "OverFirstLaw" 106 ov_m286 3 := ⟨lb_286, ov_ch7 (List.mem_of_getElem? (i := 182) rfl), ov_ch7 (List.mem_of_getElem? (i := 183) rfl), ov_ch7 (List.mem_of_getElem? (i := 184) rfl)⟩
theorem lb_164 : ov_lB ov_m164 2 := ⟨ov_ch0 (List.mem_of_getElem? (i := 1) rfl), ov_ch4 (List.mem_of_getElem? (i := 222) rfl), ⟨by decide, by decide⟩, by decide +kernel, by decide⟩
theorem lk_Law_107 : ov_lV "OverFirstLaw" 107 ov_m164 2 := ⟨lb_164, ov_ch4 (List.mem_of_getElem? (i := 219) rfl), ov_ch4 (List.mem_of_getElem? (i := 220) rfl), ov_ch4 (List.mem_of_getElem? (i := 221) rfl)⟩
theorem lb_288 : ov_lB ov_m288 2 := ⟨ov_ch0 (List.mem_of_getElem? (i := 14) rfl), ov_ch7 (List.mem_of_getElem? (i := 193) rfl), ⟨by decide, by decide⟩, by decide +kernel, by decide⟩
theorem lk_Law_110 : ov_lV "OverFirstLaw" 110 ov_m288 2 := ⟨lb_288, ov_ch7 (List.mem_of_getElem? (i := 190) rfl), ov_ch7 (List.mem_of_getElem? (i := 191) rfl), ov_ch7 (List.mem_of_getElem? (i := 192) rfl)⟩
theorem lb_172 : ov_lB ov_m172 4 := ⟨ov_ch0 (List.mem_of_getElem? (i := 1) rfl), ov_ch5 (List.mem_of_getElem? (i := 20) rfl), ⟨by decide, by decide⟩, by decide +kernel, by decide⟩
theorem lk_Law_111 : ov_lV "OverFirstLaw" 111 ov_m172 4 := ⟨lb_172, ov_ch5 (List.mem_of_getElem? (i := 17) rfl), ov_ch5 (List.mem_of_getElem? (i := 18) rfl), ov_ch5 (List.mem_of_getElem? (i := 19) rfl)⟩
theorem lb_295 : ov_lB ov_m295 4 := ⟨ov_ch0 (List.mem_of_getElem? (i := 14) rfl), ov_ch7 (List.mem_of_getElem? (i := 222) rfl), ⟨by decide, by decide⟩, by decide +kernel, by decide⟩
theorem lk_Law_115 : ov_lV "OverFirstLaw" 115 ov_m295 4 := ⟨lb_295, ov_ch7 (List.mem_of_getElem? (i := 219) rfl), ov_ch7 (List.mem_of_getElem? (i := 220) rfl), ov_ch7 (List.mem_of_getElem? (i := 221) rfl)⟩
theorem lb_174 : ov_lB ov_m174 3 := ⟨ov_ch0 (List.mem_of_getElem? (i := 1) rfl), ov_ch5 (List.mem_of_getElem? (i := 28) rfl), ⟨by decide, by decide⟩, by decide +kernel, by decide⟩
theorem lk_Law_116 : ov_lV "OverFirstLaw" 116 ov_m174 3 := ⟨lb_174, ov_ch5 (List.mem_of_getElem? (i := 25) rfl), ov_ch5 (List.mem_of_getElem? (i := 26) rfl), ov_ch5 (List.mem_of_getElem? (i := 27) rfl)⟩
theorem lb_296 : ov_lB ov_m296 3 := ⟨ov_ch0 (List.mem_of_getElem? (i := 14) rfl), ov_ch7 (List.mem_of_getElem? (i := 226) rfl), ⟨by decide, by decide⟩, by decide +kernel, by decide⟩
theorem lk_Law_120 : ov_lV "OverFirstLaw" 120 ov_m296 3 := ⟨lb_296, ov_ch7 (List.mem_of_getElem? (i := 223) rfl), ov_ch7 (List.mem_of_getElem? (i := 224) rfl), ov_ch7 (List.mem_of_getElem? (i := 225) rfl)⟩
theorem lb_176 : ov_lB ov_m176 5 := ⟨ov_ch0 (List.mem_of_getElem? (i := 1) rfl), ov_ch5 (List.mem_of_getElem? (i := 39) rfl), ⟨by decide, by decide⟩, by decide +kernel, by decide⟩
theorem lk_Law_121 : ov_lV "OverFirstLaw" 121 ov_m176 5 := ⟨lb_176, ov_ch5 (List.mem_of_getElem? (i := 36) rfl), ov_ch5 (List.mem_of_getElem? (i := 37) rfl), ov_ch5 (List.mem_of_getElem? (i := 38) rfl)⟩
theorem lb_297 : ov_lB ov_m297 5 := ⟨ov_ch0 (List.mem_of_getElem? (i := 14) rfl), ov_ch7 (List.mem_of_getElem? (i := 231) rfl), ⟨by decide, by decide⟩, by decide +kernel, by decide⟩
theorem lk_Law_125 : ov_lV "OverFirstLaw" 125 ov_m297 5 := ⟨lb_297, ov_ch7 (List.mem_of_getElem? (i := 228) rfl), ov_ch7 (List.mem_of_getElem? (i := 229) rfl), ov_ch7 (List.mem_of_getElem? (i := 230) rfl)⟩
theorem lb_184 : ov_lB ov_m184 0 := ⟨ov_ch0 (List.mem_of_getElem? (i := 1) rfl), ov_ch5 (List.mem_of_getElem? (i := 78) rfl), ⟨by decide, by decide⟩, by decide +kernel, by decide⟩
theorem lk_Law_126 : ov_lV "OverFirstLaw" 126 ov_m184 0 := ⟨lb_184, ov_ch5 (List.mem_of_getElem? (i := 75) rfl), ov_ch5 (List.mem_of_getElem? (i := 76) rfl), ov_ch5 (List.mem_of_getElem? (i := 77) rfl)⟩
theorem lb_301 : ov_lB ov_m301 0 := ⟨ov_ch0 (List.mem_of_getElem? (i := 14) rfl), ov_ch8 (List.mem_of_getElem? (i := 5) rfl), ⟨by decide, by decide⟩, by decide +kernel, by decide⟩
theorem lk_Law_129 : ov_lV "OverFirstLaw" 129 ov_m301 0 := ⟨lb_301, ov_ch8 (List.mem_of_getElem? (i := 2) rfl), ov_ch8 (List.mem_of_getElem? (i := 3) rfl), ov_ch8 (List.mem_of_getElem? (i := 4) rfl)⟩
theorem lb_185 : ov_lB ov_m185 3 := ⟨ov_ch0 (List.mem_of_getElem? (i := 1) rfl), ov_ch5 (List.mem_of_getElem? (i := 82) rfl), ⟨by decide, by decide⟩, by decide +kernel, by decide⟩
theorem lk_Law_130 : ov_lV "OverFirstLaw" 130 ov_m185 3 := ⟨lb_185, ov_ch5 (List.mem_of_getElem? (i := 79) rfl), ov_ch5 (List.mem_of_getElem? (i := 80) rfl), ov_ch5 (List.mem_of_getElem? (i := 81) rfl)⟩
theorem lb_302 : ov_lB ov_m302 3 := ⟨ov_ch0 (List.mem_of_getElem? (i := 14) rfl), ov_ch8 (List.mem_of_getElem? (i := 9) rfl), ⟨by decide, by decide⟩, by decide +kernel, by decide⟩
theorem lk_Law_134 : ov_lV "OverFirstLaw" 134 ov_m302 3 := ⟨lb_302, ov_ch8 (List.mem_of_getElem? (i := 6) rfl), ov_ch8 (List.mem_of_getElem? (i := 7) rfl), ov_ch8 (List.mem_of_getElem? (i := 8) rfl)⟩
theorem lb_187 : ov_lB ov_m187 1 := ⟨ov_ch0 (List.mem_of_getElem? (i := 1) rfl), ov_ch5 (List.mem_of_getElem? (i := 90) rfl), ⟨by decide, by decide⟩, by decide +kernel, by decide⟩
theorem lk_Law_135 : ov_lV "OverFirstLaw" 135 ov_m187 1 := ⟨lb_187, ov_ch5 (List.mem_of_getElem? (i := 87) rfl), ov_ch5 (List.mem_of_getElem? (i := 88) rfl), ov_ch5 (List.mem_of_getElem? (i := 89) rfl)⟩
theorem lb_303 : ov_lB ov_m303 1 := ⟨ov_ch0 (List.mem_of_getElem? (i := 14) rfl), ov_ch8 (List.mem_of_getElem? (i := 13) rfl), ⟨by decide, by decide⟩, by decide +kernel, by decide⟩
theorem lk_Law_139 : ov_lV "OverFirstLaw" 139 ov_m303 1 := ⟨lb_303, ov_ch8 (List.mem_of_getElem? (i := 10) rfl), ov_ch8 (List.mem_of_getElem? (i := 11) rfl), ov_ch8 (List.mem_of_getElem? (i := 12) rfl)⟩
theorem lb_192 : ov_lB ov_m192 4 := ⟨ov_ch0 (List.mem_of_getElem? (i := 1) rfl), ov_ch5 (List.mem_of_getElem? (i := 113) rfl), ⟨by decide, by decide⟩, by decide +kernel, by decide⟩
theorem lk_Law_140 : ov_lV "OverFirstLaw" 140 ov_m192 4 := ⟨lb_192, ov_ch5 (List.mem_of_getElem? (i := 110) rfl), ov_ch5 (List.mem_of_getElem? (i := 111) rfl), ov_ch5 (List.mem_of_getElem? (i := 112) rfl)⟩
theorem lb_307 : ov_lB ov_m307 4 := ⟨ov_ch0 (List.mem_of_getElem? (i := 14) rfl), ov_ch8 (List.mem_of_getElem? (i := 29) rfl), ⟨by decide, by decide⟩, by decide +kernel, by decide⟩
theorem lk_Law_143 : ov_lV "OverFirstLaw" 143 ov_m307 4 := ⟨lb_307, ov_ch8 (List.mem_of_getElem? (i := 26) rfl), ov_ch8 (List.mem_of_getElem? (i := 27) rfl), ov_ch8 (List.mem_of_getElem? (i := 28) rfl)⟩
theorem lb_196 : ov_lB ov_m196 2 := ⟨ov_ch0 (List.mem_of_getElem? (i := 1) rfl), ov_ch5 (List.mem_of_getElem? (i := 134) rfl), ⟨by decide, by decide⟩, by decide +kernel, by decide⟩
theorem lk_Law_144 : ov_lV "OverFirstLaw" 144 ov_m196 2 := ⟨lb_196, ov_ch5 (List.mem_of_getElem? (i := 131) rfl), ov_ch5 (List.mem_of_getElem? (i := 132) rfl), ov_ch5 (List.mem_of_getElem? (i := 133) rfl)⟩
theorem lb_311 : ov_lB ov_m311 2 := ⟨ov_ch0 (List.mem_of_getElem? (i := 14) rfl), ov_ch8 (List.mem_of_getElem? (i := 49) rfl), ⟨by decide, by decide⟩, by decide +kernel, by decide⟩
theorem lk_Law_148 : ov_lV "OverFirstLaw" 148 ov_m311 2 := ⟨lb_311, ov_ch8 (List.mem_of_getElem? (i := 46) rfl), ov_ch8 (List.mem_of_getElem? (i := 47) rfl), ov_ch8 (List.mem_of_getElem? (i := 48) rfl)⟩
theorem lb_198 : ov_lB ov_m198 1 := ⟨ov_ch0 (List.mem_of_getElem? (i := 1) rfl), ov_ch5 (List.mem_of_getElem? (i := 143) rfl), ⟨by decide, by decide⟩, by decide +kernel, by decide⟩
theorem lk_Law_149 : ov_lV "OverFirstLaw" 149 ov_m198 1 := ⟨lb_198, ov_ch5 (List.mem_of_getElem? (i := 140) rfl), ov_ch5 (List.mem_of_getElem? (i := 141) rfl), ov_ch5 (List.mem_of_getElem? (i := 142) rfl)⟩
theorem lb_312 : ov_lB ov_m312 1 := ⟨ov_ch0 (List.mem_of_getElem? (i := 14) rfl), ov_ch8 (List.mem_of_getElem? (i := 53) rfl), ⟨by decide, by decide⟩, by decide +kernel, by decide⟩
theorem lk_Law_152 : ov_lV "OverFirstLaw" 152 ov_m312 1 := ⟨lb_312, ov_ch8 (List.mem_of_getElem? (i := 50) rfl), ov_ch8 (List.mem_of_getElem? (i := 51) rfl), ov_ch8 (List.mem_of_getElem? (i := 52) rfl)⟩
theorem aw_int : Cond.arrayClass .int ∈ lw_tbl := ov_ch0 (List.mem_of_getElem? (i := 135) rfl)
theorem aw_long : Cond.arrayClass .long ∈ lw_tbl := ov_ch0 (List.mem_of_getElem? (i := 162) rfl)
theorem aw_char : Cond.arrayClass .char ∈ lw_tbl := ov_ch0 (List.mem_of_getElem? (i := 67) rfl)
theorem aw_boolean : Cond.arrayClass .boolean ∈ lw_tbl := ov_ch0 (List.mem_of_getElem? (i := 186) rfl)
theorem oi_1 : Cond.instanceMethod Lib.objectInit ∈ lw_tbl := ov_ch0 (List.mem_of_getElem? (i := 29) rfl)
theorem oi_2 : Cond.code Lib.objectInit ⟨#[0xb1]⟩ 1 none ∈ lw_tbl := ov_ch0 (List.mem_of_getElem? (i := 30) rfl)

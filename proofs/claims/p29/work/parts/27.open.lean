theorem b_26_0_1 : ov_ds ov_m26.2.1 0 [.aload_n 0] = true := by decide +kernel
theorem d_26_1 : decode ov_m26.2.1 1 = .ok (.getfield 21, 3) := by decide +kernel
theorem b_26_4_1 : ov_ds ov_m26.2.1 4 [.aload_n 0] = true := by decide +kernel
theorem d_26_5 : decode ov_m26.2.1 5 = .ok (.getfield 17, 3) := by decide +kernel
theorem d_26_8 : decode ov_m26.2.1 8 = .ok (.if_icmp .ge 44, 3) := by decide +kernel
theorem b_26_52_2 : ov_ds ov_m26.2.1 52 [.aload_n 0, .aload_n 0] = true := by decide +kernel
theorem d_26_54 : decode ov_m26.2.1 54 = .ok (.getfield 21, 3) := by decide +kernel
theorem d_26_57 : decode ov_m26.2.1 57 = .ok (.putfield 27, 3) := by decide +kernel
theorem b_26_60_2 : ov_ds ov_m26.2.1 60 [.aload_n 0, .lconst 0] = true := by decide +kernel
theorem d_26_62 : decode ov_m26.2.1 62 = .ok (.putfield 30, 3) := by decide +kernel
theorem b_26_65_1 : ov_ds ov_m26.2.1 65 [.aload_n 0] = true := by decide +kernel
theorem d_26_66 : decode ov_m26.2.1 66 = .ok (.getfield 21, 3) := by decide +kernel
theorem b_26_69_1 : ov_ds ov_m26.2.1 69 [.aload_n 0] = true := by decide +kernel
theorem d_26_70 : decode ov_m26.2.1 70 = .ok (.getfield 17, 3) := by decide +kernel
theorem d_26_73 : decode ov_m26.2.1 73 = .ok (.if_icmp .ge 66, 3) := by decide +kernel
theorem b_26_139_1 : ov_ds ov_m26.2.1 139 [.aload_n 0] = true := by decide +kernel
theorem d_26_140 : decode ov_m26.2.1 140 = .ok (.getfield 21, 3) := by decide +kernel
theorem b_26_143_1 : ov_ds ov_m26.2.1 143 [.aload_n 0] = true := by decide +kernel
theorem d_26_144 : decode ov_m26.2.1 144 = .ok (.getfield 27, 3) := by decide +kernel
theorem d_26_147 : decode ov_m26.2.1 147 = .ok (.if_icmp .le 27, 3) := by decide +kernel
theorem b_26_174_2 : ov_ds ov_m26.2.1 174 [.aload_n 0, .iconst 0] = true := by decide +kernel
theorem d_26_176 : decode ov_m26.2.1 176 = .ok (.putfield 37, 3) := by decide +kernel
theorem b_26_179_1 : ov_ds ov_m26.2.1 179 [.aload_n 0] = true := by decide +kernel
theorem d_26_180 : decode ov_m26.2.1 180 = .ok (.getfield 21, 3) := by decide +kernel
theorem b_26_183_1 : ov_ds ov_m26.2.1 183 [.aload_n 0] = true := by decide +kernel
theorem d_26_184 : decode ov_m26.2.1 184 = .ok (.getfield 17, 3) := by decide +kernel
theorem d_26_187 : decode ov_m26.2.1 187 = .ok (.if_icmp .ge 68, 3) := by decide +kernel
theorem b_26_255_1 : ov_ds ov_m26.2.1 255 [.aload_n 0] = true := by decide +kernel
theorem d_26_256 : decode ov_m26.2.1 256 = .ok (.getfield 21, 3) := by decide +kernel
theorem b_26_259_1 : ov_ds ov_m26.2.1 259 [.aload_n 0] = true := by decide +kernel
theorem d_26_260 : decode ov_m26.2.1 260 = .ok (.getfield 27, 3) := by decide +kernel
theorem d_26_263 : decode ov_m26.2.1 263 = .ok (.if_icmp .le 26, 3) := by decide +kernel
theorem b_26_289_2 : ov_ds ov_m26.2.1 289 [.aload_n 0, .iconst 0] = true := by decide +kernel
theorem d_26_291 : decode ov_m26.2.1 291 = .ok (.putfield 34, 3) := by decide +kernel
theorem b_26_294_1 : ov_ds ov_m26.2.1 294 [.aload_n 0] = true := by decide +kernel
theorem d_26_295 : decode ov_m26.2.1 295 = .ok (.getfield 21, 3) := by decide +kernel
theorem b_26_298_1 : ov_ds ov_m26.2.1 298 [.aload_n 0] = true := by decide +kernel
theorem d_26_299 : decode ov_m26.2.1 299 = .ok (.getfield 17, 3) := by decide +kernel
theorem d_26_302 : decode ov_m26.2.1 302 = .ok (.if_icmp .ge 47, 3) := by decide +kernel
theorem d_26_349 : decode ov_m26.2.1 349 = .ok (.return_, 1) := by decide +kernel
theorem b_26_305_2 : ov_ds ov_m26.2.1 305 [.aload_n 0, .aload_n 0] = true := by decide +kernel
theorem d_26_307 : decode ov_m26.2.1 307 = .ok (.getfield 9, 3) := by decide +kernel
theorem b_26_310_1 : ov_ds ov_m26.2.1 310 [.aload_n 0] = true := by decide +kernel
theorem d_26_311 : decode ov_m26.2.1 311 = .ok (.getfield 21, 3) := by decide +kernel
theorem d_26_314 : decode ov_m26.2.1 314 = .ok (.caload, 1) := by decide +kernel
theorem d_26_315 : decode ov_m26.2.1 315 = .ok (.putfield 40, 3) := by decide +kernel
theorem b_26_318_1 : ov_ds ov_m26.2.1 318 [.aload_n 0] = true := by decide +kernel
theorem d_26_319 : decode ov_m26.2.1 319 = .ok (.ldc 44, 2) := by decide +kernel
theorem b_26_321_1 : ov_ds ov_m26.2.1 321 [.aload_n 0] = true := by decide +kernel
theorem d_26_322 : decode ov_m26.2.1 322 = .ok (.getfield 40, 3) := by decide +kernel
theorem d_26_325 : decode ov_m26.2.1 325 = .ok (.invokevirtual 46, 3) := by decide +kernel
theorem d_26_328 : decode ov_m26.2.1 328 = .ok (.ifCond .lt 7, 3) := by decide +kernel
theorem b_26_335_1 : ov_ds ov_m26.2.1 335 [.iconst 1] = true := by decide +kernel
theorem d_26_336 : decode ov_m26.2.1 336 = .ok (.putfield 34, 3) := by decide +kernel
theorem b_26_339_2 : ov_ds ov_m26.2.1 339 [.aload_n 0, .dup] = true := by decide +kernel
theorem d_26_341 : decode ov_m26.2.1 341 = .ok (.getfield 21, 3) := by decide +kernel
theorem b_26_344_2 : ov_ds ov_m26.2.1 344 [.iconst 1, .iadd] = true := by decide +kernel
theorem d_26_346 : decode ov_m26.2.1 346 = .ok (.putfield 21, 3) := by decide +kernel
theorem b_26_331_1 : ov_ds ov_m26.2.1 331 [.iconst 4] = true := by decide +kernel
theorem d_26_332 : decode ov_m26.2.1 332 = .ok (.goto 4, 3) := by decide +kernel
theorem b_26_266_2 : ov_ds ov_m26.2.1 266 [.aload_n 0, .aload_n 0] = true := by decide +kernel
theorem d_26_268 : decode ov_m26.2.1 268 = .ok (.getfield 21, 3) := by decide +kernel
theorem b_26_271_1 : ov_ds ov_m26.2.1 271 [.aload_n 0] = true := by decide +kernel
theorem d_26_272 : decode ov_m26.2.1 272 = .ok (.getfield 27, 3) := by decide +kernel
theorem b_26_275_2 : ov_ds ov_m26.2.1 275 [.isub, .iconst 4] = true := by decide +kernel
theorem d_26_277 : decode ov_m26.2.1 277 = .ok (.if_icmp .le 7, 3) := by decide +kernel
theorem b_26_284_1 : ov_ds ov_m26.2.1 284 [.iconst 3] = true := by decide +kernel
theorem d_26_285 : decode ov_m26.2.1 285 = .ok (.putfield 34, 3) := by decide +kernel
theorem d_26_288 : decode ov_m26.2.1 288 = .ok (.return_, 1) := by decide +kernel
theorem b_26_280_1 : ov_ds ov_m26.2.1 280 [.iconst 1] = true := by decide +kernel
theorem d_26_281 : decode ov_m26.2.1 281 = .ok (.goto 4, 3) := by decide +kernel
theorem b_26_190_1 : ov_ds ov_m26.2.1 190 [.aload_n 0] = true := by decide +kernel
theorem d_26_191 : decode ov_m26.2.1 191 = .ok (.getfield 9, 3) := by decide +kernel
theorem b_26_194_1 : ov_ds ov_m26.2.1 194 [.aload_n 0] = true := by decide +kernel
theorem d_26_195 : decode ov_m26.2.1 195 = .ok (.getfield 21, 3) := by decide +kernel
theorem d_26_198 : decode ov_m26.2.1 198 = .ok (.caload, 1) := by decide +kernel
theorem b_26_199_1 : ov_ds ov_m26.2.1 199 [.bipush 48] = true := by decide +kernel
theorem d_26_201 : decode ov_m26.2.1 201 = .ok (.if_icmp .lt 54, 3) := by decide +kernel
theorem b_26_204_1 : ov_ds ov_m26.2.1 204 [.aload_n 0] = true := by decide +kernel
theorem d_26_205 : decode ov_m26.2.1 205 = .ok (.getfield 9, 3) := by decide +kernel
theorem b_26_208_1 : ov_ds ov_m26.2.1 208 [.aload_n 0] = true := by decide +kernel
theorem d_26_209 : decode ov_m26.2.1 209 = .ok (.getfield 21, 3) := by decide +kernel
theorem d_26_212 : decode ov_m26.2.1 212 = .ok (.caload, 1) := by decide +kernel
theorem b_26_213_1 : ov_ds ov_m26.2.1 213 [.bipush 57] = true := by decide +kernel
theorem d_26_215 : decode ov_m26.2.1 215 = .ok (.if_icmp .gt 40, 3) := by decide +kernel
theorem b_26_218_2 : ov_ds ov_m26.2.1 218 [.aload_n 0, .aload_n 0] = true := by decide +kernel
theorem d_26_220 : decode ov_m26.2.1 220 = .ok (.getfield 37, 3) := by decide +kernel
theorem b_26_223_2 : ov_ds ov_m26.2.1 223 [.bipush 10, .imul] = true := by decide +kernel
theorem b_26_226_1 : ov_ds ov_m26.2.1 226 [.aload_n 0] = true := by decide +kernel
theorem d_26_227 : decode ov_m26.2.1 227 = .ok (.getfield 9, 3) := by decide +kernel
theorem b_26_230_1 : ov_ds ov_m26.2.1 230 [.aload_n 0] = true := by decide +kernel
theorem d_26_231 : decode ov_m26.2.1 231 = .ok (.getfield 21, 3) := by decide +kernel
theorem d_26_234 : decode ov_m26.2.1 234 = .ok (.caload, 1) := by decide +kernel
theorem b_26_235_1 : ov_ds ov_m26.2.1 235 [.iadd] = true := by decide +kernel
theorem b_26_236_2 : ov_ds ov_m26.2.1 236 [.bipush 48, .isub] = true := by decide +kernel
theorem d_26_239 : decode ov_m26.2.1 239 = .ok (.putfield 37, 3) := by decide +kernel
theorem b_26_242_2 : ov_ds ov_m26.2.1 242 [.aload_n 0, .dup] = true := by decide +kernel
theorem d_26_244 : decode ov_m26.2.1 244 = .ok (.getfield 21, 3) := by decide +kernel
theorem b_26_247_2 : ov_ds ov_m26.2.1 247 [.iconst 1, .iadd] = true := by decide +kernel
theorem d_26_249 : decode ov_m26.2.1 249 = .ok (.putfield 21, 3) := by decide +kernel
theorem d_26_252 : decode ov_m26.2.1 252 = .ok (.goto (-73), 3) := by decide +kernel
theorem b_26_150_2 : ov_ds ov_m26.2.1 150 [.aload_n 0, .aload_n 0] = true := by decide +kernel
theorem d_26_152 : decode ov_m26.2.1 152 = .ok (.getfield 21, 3) := by decide +kernel
theorem b_26_155_1 : ov_ds ov_m26.2.1 155 [.aload_n 0] = true := by decide +kernel
theorem d_26_156 : decode ov_m26.2.1 156 = .ok (.getfield 27, 3) := by decide +kernel
theorem b_26_159_2 : ov_ds ov_m26.2.1 159 [.isub, .bipush 8] = true := by decide +kernel
theorem d_26_162 : decode ov_m26.2.1 162 = .ok (.if_icmp .le 7, 3) := by decide +kernel
theorem b_26_169_1 : ov_ds ov_m26.2.1 169 [.iconst 2] = true := by decide +kernel
theorem d_26_170 : decode ov_m26.2.1 170 = .ok (.putfield 34, 3) := by decide +kernel
theorem d_26_173 : decode ov_m26.2.1 173 = .ok (.return_, 1) := by decide +kernel
theorem b_26_165_1 : ov_ds ov_m26.2.1 165 [.iconst 1] = true := by decide +kernel
theorem d_26_166 : decode ov_m26.2.1 166 = .ok (.goto 4, 3) := by decide +kernel
theorem b_26_76_1 : ov_ds ov_m26.2.1 76 [.aload_n 0] = true := by decide +kernel
theorem d_26_77 : decode ov_m26.2.1 77 = .ok (.getfield 9, 3) := by decide +kernel
theorem b_26_80_1 : ov_ds ov_m26.2.1 80 [.aload_n 0] = true := by decide +kernel
theorem d_26_81 : decode ov_m26.2.1 81 = .ok (.getfield 21, 3) := by decide +kernel
theorem d_26_84 : decode ov_m26.2.1 84 = .ok (.caload, 1) := by decide +kernel
theorem b_26_85_1 : ov_ds ov_m26.2.1 85 [.bipush 97] = true := by decide +kernel
theorem d_26_87 : decode ov_m26.2.1 87 = .ok (.if_icmp .lt 52, 3) := by decide +kernel
theorem b_26_90_1 : ov_ds ov_m26.2.1 90 [.aload_n 0] = true := by decide +kernel
theorem d_26_91 : decode ov_m26.2.1 91 = .ok (.getfield 9, 3) := by decide +kernel
theorem b_26_94_1 : ov_ds ov_m26.2.1 94 [.aload_n 0] = true := by decide +kernel
theorem d_26_95 : decode ov_m26.2.1 95 = .ok (.getfield 21, 3) := by decide +kernel
theorem d_26_98 : decode ov_m26.2.1 98 = .ok (.caload, 1) := by decide +kernel
theorem b_26_99_1 : ov_ds ov_m26.2.1 99 [.bipush 122] = true := by decide +kernel
theorem d_26_101 : decode ov_m26.2.1 101 = .ok (.if_icmp .gt 38, 3) := by decide +kernel
theorem b_26_104_2 : ov_ds ov_m26.2.1 104 [.aload_n 0, .aload_n 0] = true := by decide +kernel
theorem d_26_106 : decode ov_m26.2.1 106 = .ok (.getfield 30, 3) := by decide +kernel
theorem b_26_109_3 : ov_ds ov_m26.2.1 109 [.bipush 8, .lshl, .aload_n 0] = true := by decide +kernel
theorem d_26_113 : decode ov_m26.2.1 113 = .ok (.getfield 9, 3) := by decide +kernel
theorem b_26_116_1 : ov_ds ov_m26.2.1 116 [.aload_n 0] = true := by decide +kernel
theorem d_26_117 : decode ov_m26.2.1 117 = .ok (.getfield 21, 3) := by decide +kernel
theorem d_26_120 : decode ov_m26.2.1 120 = .ok (.caload, 1) := by decide +kernel
theorem b_26_121_2 : ov_ds ov_m26.2.1 121 [.i2l, .lor] = true := by decide +kernel
theorem d_26_123 : decode ov_m26.2.1 123 = .ok (.putfield 30, 3) := by decide +kernel
theorem b_26_126_2 : ov_ds ov_m26.2.1 126 [.aload_n 0, .dup] = true := by decide +kernel
theorem d_26_128 : decode ov_m26.2.1 128 = .ok (.getfield 21, 3) := by decide +kernel
theorem b_26_131_2 : ov_ds ov_m26.2.1 131 [.iconst 1, .iadd] = true := by decide +kernel
theorem d_26_133 : decode ov_m26.2.1 133 = .ok (.putfield 21, 3) := by decide +kernel
theorem d_26_136 : decode ov_m26.2.1 136 = .ok (.goto (-71), 3) := by decide +kernel
theorem b_26_11_1 : ov_ds ov_m26.2.1 11 [.aload_n 0] = true := by decide +kernel
theorem d_26_12 : decode ov_m26.2.1 12 = .ok (.getfield 9, 3) := by decide +kernel
theorem b_26_15_1 : ov_ds ov_m26.2.1 15 [.aload_n 0] = true := by decide +kernel
theorem d_26_16 : decode ov_m26.2.1 16 = .ok (.getfield 21, 3) := by decide +kernel
theorem d_26_19 : decode ov_m26.2.1 19 = .ok (.caload, 1) := by decide +kernel
theorem b_26_20_1 : ov_ds ov_m26.2.1 20 [.bipush 10] = true := by decide +kernel
theorem d_26_22 : decode ov_m26.2.1 22 = .ok (.if_icmp .eq 17, 3) := by decide +kernel
theorem b_26_39_2 : ov_ds ov_m26.2.1 39 [.aload_n 0, .dup] = true := by decide +kernel
theorem d_26_41 : decode ov_m26.2.1 41 = .ok (.getfield 21, 3) := by decide +kernel
theorem b_26_44_2 : ov_ds ov_m26.2.1 44 [.iconst 1, .iadd] = true := by decide +kernel
theorem d_26_46 : decode ov_m26.2.1 46 = .ok (.putfield 21, 3) := by decide +kernel
theorem d_26_49 : decode ov_m26.2.1 49 = .ok (.goto (-49), 3) := by decide +kernel
theorem b_26_25_1 : ov_ds ov_m26.2.1 25 [.aload_n 0] = true := by decide +kernel
theorem d_26_26 : decode ov_m26.2.1 26 = .ok (.getfield 9, 3) := by decide +kernel
theorem b_26_29_1 : ov_ds ov_m26.2.1 29 [.aload_n 0] = true := by decide +kernel
theorem d_26_30 : decode ov_m26.2.1 30 = .ok (.getfield 21, 3) := by decide +kernel
theorem d_26_33 : decode ov_m26.2.1 33 = .ok (.caload, 1) := by decide +kernel
theorem b_26_34_1 : ov_ds ov_m26.2.1 34 [.bipush 32] = true := by decide +kernel
theorem d_26_36 : decode ov_m26.2.1 36 = .ok (.if_icmp .ne 16, 3) := by decide +kernel
abbrev P_Tape_advance_1 (F : ov_H) (z : ov_Z) (h : ov_H)  : Option ov_V → ov_Z → ov_H → Prop := fun r0 z' h' => r0 = none ∧ ov_I F z' h' ∧ ((h' 3 3) = (h 3 3) ∧ (h' 36 7) = (h 36 7) ∧ (h' 1 1) = (h 1 1) ∧ (h' 90 2) = (h 90 2) ∧ (h' 0 10) = (h 0 10) ∧ (h' 0 11) = (h 0 11) ∧ (h' 0 12) = (h 0 12) ∧ (h' 0 13) = (h 0 13) ∧ (h' 3 1) = (h 3 1) ∧ (h' 36 8) = (h 36 8) ∧ (h' 46 3) = (h 46 3) ∧ (h' 46 4) = (h 46 4) ∧ (h' 49 4) = (h 49 4) ∧ (h' 49 5) = (h 49 5) ∧ (h' 64 0) = (h 64 0) ∧ (h' 76 0) = (h 76 0))
set_option maxHeartbeats 4000000 in
theorem c_Tape_advance_1 {u : ov_U} {F : ov_H} {z : ov_Z} {h : ov_H} (d : Nat) (hd : 4 ≤ d) (U : ov_cap u) (I : ov_I F z h) (hw : ov_kw 2 F) : ov_T u d ov_m26 [ov_r 1] z h (P_Tape_advance_1 F z h) := by
  refine ov_en rfl (Nat.le_of_ble_eq_true rfl) ?_
  show ov_R u d ov_m26 0 [(0, ov_r 1)] [] z h (P_Tape_advance_1 F z h)
  have gg := rg_1_7 I
  have L4 : ∀ (n1 : Nat) (z5 : ov_Z) (h6 : ov_H) (I7 : ov_I F z5 h6) (q3 : (h6 3 3) = (h 3 3) ∧ 0 ≤ (h6 1 7) ∧ (h6 1 7) ≤ 1000 ∧ (h6 36 7) = (h 36 7) ∧ (h6 1 1) = (h 1 1) ∧ (h6 90 2) = (h 90 2) ∧ (h6 0 10) = (h 0 10) ∧ (h6 0 11) = (h 0 11) ∧ (h6 0 12) = (h 0 12) ∧ (h6 0 13) = (h 0 13) ∧ (h6 3 1) = (h 3 1) ∧ (h6 36 8) = (h 36 8) ∧ (h6 46 3) = (h 46 3) ∧ (h6 46 4) = (h 46 4) ∧ (h6 49 4) = (h 49 4) ∧ (h6 49 5) = (h 49 5) ∧ (h6 64 0) = (h 64 0) ∧ (h6 76 0) = (h 76 0)), 1000 - (h6 1 7) < (n1 : Int) → ov_R u d ov_m26 0 [(0, ov_r 1)] [] z5 h6 (P_Tape_advance_1 F z h) := by
    intro n1
    induction n1 with
    | zero =>
      intro  z5 h6 I7 q3 hn8
      exact absurd hn8 (by omega)
    | succ n1 ih2 =>
      intro  z5 h6 I7 q3 hn8
      refine ov_blk (ls2 := [(0, ov_r 1)]) (st2 := [ov_r 1]) (pc2 := 1) b_26_0_1 rfl rfl ?_
      refine ov_getf (v := ov_i (h6 1 7)) d_26_1 fl_Tape_21 (zb_1 I7) (zs_1 I7) rfl ?_
      have g9 := rg_1_7 I7
      refine ov_blk (ls2 := [(0, ov_r 1)]) (st2 := [ov_r 1, ov_i (h6 1 7)]) (pc2 := 5) b_26_4_1 rfl rfl ?_
      refine ov_getf (v := ov_i (h6 1 1)) d_26_5 fl_Tape_17 (zb_1 I7) (zs_1 I7) rfl ?_
      have g10 := rg_1_1 I7
      refine ov_icge (tgt := 52) d_26_8 (by decide) (by omega) (by omega) (fun c11 => ?_) (fun c11 => ?_)
      · skip
        refine ov_blk (ls2 := [(0, ov_r 1)]) (st2 := [ov_r 1, ov_r 1]) (pc2 := 54) b_26_52_2 rfl rfl ?_
        refine ov_getf (v := ov_i (h6 1 7)) d_26_54 fl_Tape_21 (zb_1 I7) (zs_1 I7) rfl ?_
        refine ov_putf (x := (h6 1 7)) d_26_57 fl_Tape_27 (zb_1 I7) (zs_1 I7) rfl nk_0 rfl ?_
        have I13 := up_1_3 (x := (h6 1 7)) I7 (by omega) (hw 1 (by decide +kernel))
        refine ov_blk (ls2 := [(0, ov_r 1)]) (st2 := [ov_l 0, ov_r 1]) (pc2 := 62) b_26_60_2 rfl rfl ?_
        refine ov_putf (x := 0) d_26_62 fl_Tape_30 (zb_1 I13) (zs_1 I13) rfl nk_1 rfl ?_
        have I14 := up_1_6 (x := 0) I13 (hw 1 (by decide +kernel))
        have L18 : ∀ (n15 : Nat) (z19 : ov_Z) (h20 : ov_H) (I21 : ov_I F z19 h20) (q17 : (h20 3 3) = (h 3 3) ∧ 0 ≤ (h20 1 7) ∧ (h20 1 7) ≤ 1000 ∧ (h20 36 7) = (h 36 7) ∧ (h20 1 1) = (h 1 1) ∧ (h20 90 2) = (h 90 2) ∧ (h20 0 10) = (h 0 10) ∧ (h20 0 11) = (h 0 11) ∧ (h20 0 12) = (h 0 12) ∧ (h20 0 13) = (h 0 13) ∧ (h20 3 1) = (h 3 1) ∧ (h20 36 8) = (h 36 8) ∧ (h20 46 3) = (h 46 3) ∧ (h20 46 4) = (h 46 4) ∧ (h20 49 4) = (h 49 4) ∧ (h20 49 5) = (h 49 5) ∧ (h20 64 0) = (h 64 0) ∧ (h20 76 0) = (h 76 0)), 1000 - (h20 1 7) < (n15 : Int) → ov_R u d ov_m26 65 [(0, ov_r 1)] [] z19 h20 (P_Tape_advance_1 F z h) := by
          intro n15
          induction n15 with
          | zero =>
            intro  z19 h20 I21 q17 hn22
            exact absurd hn22 (by omega)
          | succ n15 ih16 =>
            intro  z19 h20 I21 q17 hn22
            refine ov_blk (ls2 := [(0, ov_r 1)]) (st2 := [ov_r 1]) (pc2 := 66) b_26_65_1 rfl rfl ?_
            refine ov_getf (v := ov_i (h20 1 7)) d_26_66 fl_Tape_21 (zb_1 I21) (zs_1 I21) rfl ?_
            have g23 := rg_1_7 I21
            refine ov_blk (ls2 := [(0, ov_r 1)]) (st2 := [ov_r 1, ov_i (h20 1 7)]) (pc2 := 70) b_26_69_1 rfl rfl ?_
            refine ov_getf (v := ov_i (h20 1 1)) d_26_70 fl_Tape_17 (zb_1 I21) (zs_1 I21) rfl ?_
            have g24 := rg_1_1 I21
            refine ov_icge (tgt := 139) d_26_73 (by decide) (by omega) (by omega) (fun c25 => ?_) (fun c25 => ?_)
            · skip
              refine ov_blk (ls2 := [(0, ov_r 1)]) (st2 := [ov_r 1]) (pc2 := 140) b_26_139_1 rfl rfl ?_
              refine ov_getf (v := ov_i (h20 1 7)) d_26_140 fl_Tape_21 (zb_1 I21) (zs_1 I21) rfl ?_
              refine ov_blk (ls2 := [(0, ov_r 1)]) (st2 := [ov_r 1, ov_i (h20 1 7)]) (pc2 := 144) b_26_143_1 rfl rfl ?_
              refine ov_getf (v := ov_i (h20 1 3)) d_26_144 fl_Tape_27 (zb_1 I21) (zs_1 I21) rfl ?_
              have g27 := rg_1_3 I21
              refine ov_icle (tgt := 174) d_26_147 (by decide) (by omega) (by omega) (fun c28 => ?_) (fun c28 => ?_)
              · skip
                refine ov_blk (ls2 := [(0, ov_r 1)]) (st2 := [ov_i 0, ov_r 1]) (pc2 := 176) b_26_174_2 rfl rfl ?_
                refine ov_putf (x := 0) d_26_176 fl_Tape_37 (zb_1 I21) (zs_1 I21) rfl nk_0 rfl ?_
                have I29 := up_1_4 (x := 0) I21 (by omega) (hw 1 (by decide +kernel))
                have L33 : ∀ (n30 : Nat) (z34 : ov_Z) (h35 : ov_H) (I36 : ov_I F z34 h35) (q32 : (h35 3 3) = (h 3 3) ∧ 0 ≤ (h35 1 7) ∧ (h35 1 7) ≤ 1000 ∧ (h35 36 7) = (h 36 7) ∧ (h35 1 1) = (h 1 1) ∧ (h35 90 2) = (h 90 2) ∧ (h35 0 10) = (h 0 10) ∧ (h35 0 11) = (h 0 11) ∧ (h35 0 12) = (h 0 12) ∧ (h35 0 13) = (h 0 13) ∧ (h35 3 1) = (h 3 1) ∧ (h35 36 8) = (h 36 8) ∧ (h35 46 3) = (h 46 3) ∧ (h35 46 4) = (h 46 4) ∧ (h35 49 4) = (h 49 4) ∧ (h35 49 5) = (h 49 5) ∧ (h35 64 0) = (h 64 0) ∧ (h35 76 0) = (h 76 0)), 1000 - (h35 1 7) < (n30 : Int) → ov_R u d ov_m26 179 [(0, ov_r 1)] [] z34 h35 (P_Tape_advance_1 F z h) := by
                  intro n30
                  induction n30 with
                  | zero =>
                    intro  z34 h35 I36 q32 hn37
                    exact absurd hn37 (by omega)
                  | succ n30 ih31 =>
                    intro  z34 h35 I36 q32 hn37
                    refine ov_blk (ls2 := [(0, ov_r 1)]) (st2 := [ov_r 1]) (pc2 := 180) b_26_179_1 rfl rfl ?_
                    refine ov_getf (v := ov_i (h35 1 7)) d_26_180 fl_Tape_21 (zb_1 I36) (zs_1 I36) rfl ?_
                    have g38 := rg_1_7 I36
                    refine ov_blk (ls2 := [(0, ov_r 1)]) (st2 := [ov_r 1, ov_i (h35 1 7)]) (pc2 := 184) b_26_183_1 rfl rfl ?_
                    refine ov_getf (v := ov_i (h35 1 1)) d_26_184 fl_Tape_17 (zb_1 I36) (zs_1 I36) rfl ?_
                    have g39 := rg_1_1 I36
                    refine ov_icge (tgt := 255) d_26_187 (by decide) (by omega) (by omega) (fun c40 => ?_) (fun c40 => ?_)
                    · skip
                      refine ov_blk (ls2 := [(0, ov_r 1)]) (st2 := [ov_r 1]) (pc2 := 256) b_26_255_1 rfl rfl ?_
                      refine ov_getf (v := ov_i (h35 1 7)) d_26_256 fl_Tape_21 (zb_1 I36) (zs_1 I36) rfl ?_
                      refine ov_blk (ls2 := [(0, ov_r 1)]) (st2 := [ov_r 1, ov_i (h35 1 7)]) (pc2 := 260) b_26_259_1 rfl rfl ?_
                      refine ov_getf (v := ov_i (h35 1 3)) d_26_260 fl_Tape_27 (zb_1 I36) (zs_1 I36) rfl ?_
                      have g42 := rg_1_3 I36
                      refine ov_icle (tgt := 289) d_26_263 (by decide) (by omega) (by omega) (fun c43 => ?_) (fun c43 => ?_)
                      · skip
                        refine ov_blk (ls2 := [(0, ov_r 1)]) (st2 := [ov_i 0, ov_r 1]) (pc2 := 291) b_26_289_2 rfl rfl ?_
                        refine ov_putf (x := 0) d_26_291 fl_Tape_34 (zb_1 I36) (zs_1 I36) rfl nk_0 rfl ?_
                        have I44 := up_1_2 (x := 0) I36 (by omega) (hw 1 (by decide +kernel))
                        refine ov_blk (ls2 := [(0, ov_r 1)]) (st2 := [ov_r 1]) (pc2 := 295) b_26_294_1 rfl rfl ?_
                        refine ov_getf (v := ov_i (h35 1 7)) d_26_295 fl_Tape_21 (zb_1 I44) (zs_1 I44) rfl ?_
                        refine ov_blk (ls2 := [(0, ov_r 1)]) (st2 := [ov_r 1, ov_i (h35 1 7)]) (pc2 := 299) b_26_298_1 rfl rfl ?_
                        refine ov_getf (v := ov_i (h35 1 1)) d_26_299 fl_Tape_17 (zb_1 I44) (zs_1 I44) rfl ?_
                        refine ov_icge (tgt := 349) d_26_302 (by decide) (by omega) (by omega) (fun c47 => ?_) (fun c47 => ?_)
                        · skip
                          exact ov_retv (st := []) d_26_349 rfl ⟨rfl, I44, (by show (h35 3 3) = (h 3 3) ∧ (h35 36 7) = (h 36 7) ∧ (h35 1 1) = (h 1 1) ∧ (h35 90 2) = (h 90 2) ∧ (h35 0 10) = (h 0 10) ∧ (h35 0 11) = (h 0 11) ∧ (h35 0 12) = (h 0 12) ∧ (h35 0 13) = (h 0 13) ∧ (h35 3 1) = (h 3 1) ∧ (h35 36 8) = (h 36 8) ∧ (h35 46 3) = (h 46 3) ∧ (h35 46 4) = (h 46 4) ∧ (h35 49 4) = (h 49 4) ∧ (h35 49 5) = (h 49 5) ∧ (h35 64 0) = (h 64 0) ∧ (h35 76 0) = (h 76 0); omega)⟩
                        · skip
                          refine ov_blk (ls2 := [(0, ov_r 1)]) (st2 := [ov_r 1, ov_r 1]) (pc2 := 307) b_26_305_2 rfl rfl ?_
                          refine ov_getf (v := ov_r 2) d_26_307 fl_Tape_9 (zb_1 I44) (zs_1 I44) (congrArg ov_r (rg_1_0 I44)) ?_
                          refine ov_blk (ls2 := [(0, ov_r 1)]) (st2 := [ov_r 1, ov_r 2, ov_r 1]) (pc2 := 311) b_26_310_1 rfl rfl ?_
                          refine ov_getf (v := ov_i (h35 1 7)) d_26_311 fl_Tape_21 (zb_1 I44) (zs_1 I44) rfl ?_
                          refine ov_cald d_26_314 (zb_2 I44) (zs_2 I44) (by omega) ?_
                          show ov_R u d ov_m26 315 [(0, ov_r 1)] [ov_i (h35 2 (h35 1 7)), ov_r 1] z34 (ov_up h35 1 2 0) (P_Tape_advance_1 F z h)
                          have g49 := ra_2 I36 (h35 1 7)
                          refine ov_putf (x := (h35 2 (h35 1 7))) d_26_315 fl_Tape_40 (zb_1 I44) (zs_1 I44) rfl (nk_4 (by omega)) rfl ?_
                          have I50 := up_1_5 (x := (h35 2 (h35 1 7))) I44 (by omega) (hw 1 (by decide +kernel))
                          refine ov_blk (ls2 := [(0, ov_r 1)]) (st2 := [ov_r 1]) (pc2 := 319) b_26_318_1 rfl rfl ?_
                          refine ov_ldcT d_26_319 rfl U.2.2 ?_
                          refine ov_blk (ls2 := [(0, ov_r 1)]) (st2 := [ov_r 1, ov_r (-3), ov_r 1]) (pc2 := 322) b_26_321_1 rfl rfl ?_
                          refine ov_getf (v := ov_i (h35 2 (h35 1 7))) d_26_322 fl_Tape_40 (zb_1 I50) (zs_1 I50) rfl ?_
                          refine ov_cVS (as := [ov_i (h35 2 (h35 1 7))]) (st := [ov_r 1]) (d2 := d - 1) d_26_325 lk_Tape_46 rfl (Nat.le_of_ble_eq_true rfl) U.2.2 rfl (by omega) (c_String_indexOf_II_m3 (d - 1) (by omega) U I50 (h35 2 (h35 1 7)) (by omega)) ?_
                          rintro _ _ _ ⟨v52, rfl, rfl, rfl, f51⟩
                          show ov_R u d ov_m26 328 [(0, ov_r 1)] [ov_i v52, ov_r 1] z34 (ov_up (ov_up h35 1 2 0) 1 5 (h35 2 (h35 1 7))) (P_Tape_advance_1 F z h)
                          have f53 : -1 ≤ v52 ∧ v52 ≤ 8 := f51
                          clear f51
                          refine ov_iflt (tgt := 335) d_26_328 (by decide) (by omega) (fun c54 => ?_) (fun c54 => ?_)
                          · skip
                            refine ov_blk (ls2 := [(0, ov_r 1)]) (st2 := [ov_i 1, ov_r 1]) (pc2 := 336) b_26_335_1 rfl rfl ?_
                            refine ov_putf (x := 1) d_26_336 fl_Tape_34 (zb_1 I50) (zs_1 I50) rfl nk_0 rfl ?_
                            have I55 := up_1_2 (x := 1) I50 (by omega) (hw 1 (by decide +kernel))
                            refine ov_blk (ls2 := [(0, ov_r 1)]) (st2 := [ov_r 1, ov_r 1]) (pc2 := 341) b_26_339_2 rfl rfl ?_
                            refine ov_getf (v := ov_i (h35 1 7)) d_26_341 fl_Tape_21 (zb_1 I55) (zs_1 I55) rfl ?_
                            refine ov_blk (ls2 := [(0, ov_r 1)]) (st2 := [ov_i ((h35 1 7) + 1), ov_r 1]) (pc2 := 346) b_26_344_2 rfl rfl ?_
                            refine ov_putf (x := ((h35 1 7) + 1)) d_26_346 fl_Tape_21 (zb_1 I55) (zs_1 I55) rfl nk_0 rfl ?_
                            have I57 := up_1_7 (x := ((h35 1 7) + 1)) I55 (by omega) (hw 1 (by decide +kernel))
                            exact ov_retv (st := []) d_26_349 rfl ⟨rfl, I57, (by show (h35 3 3) = (h 3 3) ∧ (h35 36 7) = (h 36 7) ∧ (h35 1 1) = (h 1 1) ∧ (h35 90 2) = (h 90 2) ∧ (h35 0 10) = (h 0 10) ∧ (h35 0 11) = (h 0 11) ∧ (h35 0 12) = (h 0 12) ∧ (h35 0 13) = (h 0 13) ∧ (h35 3 1) = (h 3 1) ∧ (h35 36 8) = (h 36 8) ∧ (h35 46 3) = (h 46 3) ∧ (h35 46 4) = (h 46 4) ∧ (h35 49 4) = (h 49 4) ∧ (h35 49 5) = (h 49 5) ∧ (h35 64 0) = (h 64 0) ∧ (h35 76 0) = (h 76 0); omega)⟩
                          · skip
                            refine ov_blk (ls2 := [(0, ov_r 1)]) (st2 := [ov_i 4, ov_r 1]) (pc2 := 332) b_26_331_1 rfl rfl ?_
                            refine ov_goto (tgt := 336) d_26_332 (by decide) ?_
                            refine ov_putf (x := 4) d_26_336 fl_Tape_34 (zb_1 I50) (zs_1 I50) rfl nk_0 rfl ?_
                            have I58 := up_1_2 (x := 4) I50 (by omega) (hw 1 (by decide +kernel))
                            refine ov_blk (ls2 := [(0, ov_r 1)]) (st2 := [ov_r 1, ov_r 1]) (pc2 := 341) b_26_339_2 rfl rfl ?_
                            refine ov_getf (v := ov_i (h35 1 7)) d_26_341 fl_Tape_21 (zb_1 I58) (zs_1 I58) rfl ?_
                            refine ov_blk (ls2 := [(0, ov_r 1)]) (st2 := [ov_i ((h35 1 7) + 1), ov_r 1]) (pc2 := 346) b_26_344_2 rfl rfl ?_
                            refine ov_putf (x := ((h35 1 7) + 1)) d_26_346 fl_Tape_21 (zb_1 I58) (zs_1 I58) rfl nk_0 rfl ?_
                            have I60 := up_1_7 (x := ((h35 1 7) + 1)) I58 (by omega) (hw 1 (by decide +kernel))
                            exact ov_retv (st := []) d_26_349 rfl ⟨rfl, I60, (by show (h35 3 3) = (h 3 3) ∧ (h35 36 7) = (h 36 7) ∧ (h35 1 1) = (h 1 1) ∧ (h35 90 2) = (h 90 2) ∧ (h35 0 10) = (h 0 10) ∧ (h35 0 11) = (h 0 11) ∧ (h35 0 12) = (h 0 12) ∧ (h35 0 13) = (h 0 13) ∧ (h35 3 1) = (h 3 1) ∧ (h35 36 8) = (h 36 8) ∧ (h35 46 3) = (h 46 3) ∧ (h35 46 4) = (h 46 4) ∧ (h35 49 4) = (h 49 4) ∧ (h35 49 5) = (h 49 5) ∧ (h35 64 0) = (h 64 0) ∧ (h35 76 0) = (h 76 0); omega)⟩
                      · skip
                        refine ov_blk (ls2 := [(0, ov_r 1)]) (st2 := [ov_r 1, ov_r 1]) (pc2 := 268) b_26_266_2 rfl rfl ?_
                        refine ov_getf (v := ov_i (h35 1 7)) d_26_268 fl_Tape_21 (zb_1 I36) (zs_1 I36) rfl ?_
                        refine ov_blk (ls2 := [(0, ov_r 1)]) (st2 := [ov_r 1, ov_i (h35 1 7), ov_r 1]) (pc2 := 272) b_26_271_1 rfl rfl ?_
                        refine ov_getf (v := ov_i (h35 1 3)) d_26_272 fl_Tape_27 (zb_1 I36) (zs_1 I36) rfl ?_
                        refine ov_blk (ls2 := [(0, ov_r 1)]) (st2 := [ov_i 4, ov_i ((h35 1 7) - (h35 1 3)), ov_r 1]) (pc2 := 277) b_26_275_2 rfl rfl ?_
                        refine ov_icle (tgt := 284) d_26_277 (by decide) (by omega) (by omega) (fun c63 => ?_) (fun c63 => ?_)
                        · skip
                          refine ov_blk (ls2 := [(0, ov_r 1)]) (st2 := [ov_i 3, ov_r 1]) (pc2 := 285) b_26_284_1 rfl rfl ?_
                          refine ov_putf (x := 3) d_26_285 fl_Tape_34 (zb_1 I36) (zs_1 I36) rfl nk_0 rfl ?_
                          have I64 := up_1_2 (x := 3) I36 (by omega) (hw 1 (by decide +kernel))
                          exact ov_retv (st := []) d_26_288 rfl ⟨rfl, I64, (by show (h35 3 3) = (h 3 3) ∧ (h35 36 7) = (h 36 7) ∧ (h35 1 1) = (h 1 1) ∧ (h35 90 2) = (h 90 2) ∧ (h35 0 10) = (h 0 10) ∧ (h35 0 11) = (h 0 11) ∧ (h35 0 12) = (h 0 12) ∧ (h35 0 13) = (h 0 13) ∧ (h35 3 1) = (h 3 1) ∧ (h35 36 8) = (h 36 8) ∧ (h35 46 3) = (h 46 3) ∧ (h35 46 4) = (h 46 4) ∧ (h35 49 4) = (h 49 4) ∧ (h35 49 5) = (h 49 5) ∧ (h35 64 0) = (h 64 0) ∧ (h35 76 0) = (h 76 0); omega)⟩
                        · skip
                          refine ov_blk (ls2 := [(0, ov_r 1)]) (st2 := [ov_i 1, ov_r 1]) (pc2 := 281) b_26_280_1 rfl rfl ?_
                          refine ov_goto (tgt := 285) d_26_281 (by decide) ?_
                          refine ov_putf (x := 1) d_26_285 fl_Tape_34 (zb_1 I36) (zs_1 I36) rfl nk_0 rfl ?_
                          have I65 := up_1_2 (x := 1) I36 (by omega) (hw 1 (by decide +kernel))
                          exact ov_retv (st := []) d_26_288 rfl ⟨rfl, I65, (by show (h35 3 3) = (h 3 3) ∧ (h35 36 7) = (h 36 7) ∧ (h35 1 1) = (h 1 1) ∧ (h35 90 2) = (h 90 2) ∧ (h35 0 10) = (h 0 10) ∧ (h35 0 11) = (h 0 11) ∧ (h35 0 12) = (h 0 12) ∧ (h35 0 13) = (h 0 13) ∧ (h35 3 1) = (h 3 1) ∧ (h35 36 8) = (h 36 8) ∧ (h35 46 3) = (h 46 3) ∧ (h35 46 4) = (h 46 4) ∧ (h35 49 4) = (h 49 4) ∧ (h35 49 5) = (h 49 5) ∧ (h35 64 0) = (h 64 0) ∧ (h35 76 0) = (h 76 0); omega)⟩
                    · skip
                      refine ov_blk (ls2 := [(0, ov_r 1)]) (st2 := [ov_r 1]) (pc2 := 191) b_26_190_1 rfl rfl ?_
                      refine ov_getf (v := ov_r 2) d_26_191 fl_Tape_9 (zb_1 I36) (zs_1 I36) (congrArg ov_r (rg_1_0 I36)) ?_
                      refine ov_blk (ls2 := [(0, ov_r 1)]) (st2 := [ov_r 1, ov_r 2]) (pc2 := 195) b_26_194_1 rfl rfl ?_
                      refine ov_getf (v := ov_i (h35 1 7)) d_26_195 fl_Tape_21 (zb_1 I36) (zs_1 I36) rfl ?_
                      refine ov_cald d_26_198 (zb_2 I36) (zs_2 I36) (by omega) ?_
                      have g67 := ra_2 I36 (h35 1 7)
                      refine ov_blk (ls2 := [(0, ov_r 1)]) (st2 := [ov_i 48, ov_i (h35 2 (h35 1 7))]) (pc2 := 201) b_26_199_1 rfl rfl ?_
                      refine ov_iclt (tgt := 255) d_26_201 (by decide) (by omega) (by omega) (fun c68 => ?_) (fun c68 => ?_)
                      · skip
                        refine ov_blk (ls2 := [(0, ov_r 1)]) (st2 := [ov_r 1]) (pc2 := 256) b_26_255_1 rfl rfl ?_
                        refine ov_getf (v := ov_i (h35 1 7)) d_26_256 fl_Tape_21 (zb_1 I36) (zs_1 I36) rfl ?_
                        refine ov_blk (ls2 := [(0, ov_r 1)]) (st2 := [ov_r 1, ov_i (h35 1 7)]) (pc2 := 260) b_26_259_1 rfl rfl ?_
                        refine ov_getf (v := ov_i (h35 1 3)) d_26_260 fl_Tape_27 (zb_1 I36) (zs_1 I36) rfl ?_
                        have g70 := rg_1_3 I36
                        refine ov_icle (tgt := 289) d_26_263 (by decide) (by omega) (by omega) (fun c71 => ?_) (fun c71 => ?_)
                        · skip
                          refine ov_blk (ls2 := [(0, ov_r 1)]) (st2 := [ov_i 0, ov_r 1]) (pc2 := 291) b_26_289_2 rfl rfl ?_
                          refine ov_putf (x := 0) d_26_291 fl_Tape_34 (zb_1 I36) (zs_1 I36) rfl nk_0 rfl ?_
                          have I72 := up_1_2 (x := 0) I36 (by omega) (hw 1 (by decide +kernel))
                          refine ov_blk (ls2 := [(0, ov_r 1)]) (st2 := [ov_r 1]) (pc2 := 295) b_26_294_1 rfl rfl ?_
                          refine ov_getf (v := ov_i (h35 1 7)) d_26_295 fl_Tape_21 (zb_1 I72) (zs_1 I72) rfl ?_
                          refine ov_blk (ls2 := [(0, ov_r 1)]) (st2 := [ov_r 1, ov_i (h35 1 7)]) (pc2 := 299) b_26_298_1 rfl rfl ?_
                          refine ov_getf (v := ov_i (h35 1 1)) d_26_299 fl_Tape_17 (zb_1 I72) (zs_1 I72) rfl ?_
                          refine ov_icge (tgt := 349) d_26_302 (by decide) (by omega) (by omega) (fun c75 => ?_) (fun c75 => ?_)
                          · skip
                            exact ov_retv (st := []) d_26_349 rfl ⟨rfl, I72, (by show (h35 3 3) = (h 3 3) ∧ (h35 36 7) = (h 36 7) ∧ (h35 1 1) = (h 1 1) ∧ (h35 90 2) = (h 90 2) ∧ (h35 0 10) = (h 0 10) ∧ (h35 0 11) = (h 0 11) ∧ (h35 0 12) = (h 0 12) ∧ (h35 0 13) = (h 0 13) ∧ (h35 3 1) = (h 3 1) ∧ (h35 36 8) = (h 36 8) ∧ (h35 46 3) = (h 46 3) ∧ (h35 46 4) = (h 46 4) ∧ (h35 49 4) = (h 49 4) ∧ (h35 49 5) = (h 49 5) ∧ (h35 64 0) = (h 64 0) ∧ (h35 76 0) = (h 76 0); omega)⟩
                          · skip
                            refine ov_blk (ls2 := [(0, ov_r 1)]) (st2 := [ov_r 1, ov_r 1]) (pc2 := 307) b_26_305_2 rfl rfl ?_
                            refine ov_getf (v := ov_r 2) d_26_307 fl_Tape_9 (zb_1 I72) (zs_1 I72) (congrArg ov_r (rg_1_0 I72)) ?_
                            refine ov_blk (ls2 := [(0, ov_r 1)]) (st2 := [ov_r 1, ov_r 2, ov_r 1]) (pc2 := 311) b_26_310_1 rfl rfl ?_
                            refine ov_getf (v := ov_i (h35 1 7)) d_26_311 fl_Tape_21 (zb_1 I72) (zs_1 I72) rfl ?_
                            refine ov_cald d_26_314 (zb_2 I72) (zs_2 I72) (by omega) ?_
                            show ov_R u d ov_m26 315 [(0, ov_r 1)] [ov_i (h35 2 (h35 1 7)), ov_r 1] z34 (ov_up h35 1 2 0) (P_Tape_advance_1 F z h)
                            refine ov_putf (x := (h35 2 (h35 1 7))) d_26_315 fl_Tape_40 (zb_1 I72) (zs_1 I72) rfl (nk_4 (by omega)) rfl ?_
                            have I78 := up_1_5 (x := (h35 2 (h35 1 7))) I72 (by omega) (hw 1 (by decide +kernel))
                            refine ov_blk (ls2 := [(0, ov_r 1)]) (st2 := [ov_r 1]) (pc2 := 319) b_26_318_1 rfl rfl ?_
                            refine ov_ldcT d_26_319 rfl U.2.2 ?_
                            refine ov_blk (ls2 := [(0, ov_r 1)]) (st2 := [ov_r 1, ov_r (-3), ov_r 1]) (pc2 := 322) b_26_321_1 rfl rfl ?_
                            refine ov_getf (v := ov_i (h35 2 (h35 1 7))) d_26_322 fl_Tape_40 (zb_1 I78) (zs_1 I78) rfl ?_
                            refine ov_cVS (as := [ov_i (h35 2 (h35 1 7))]) (st := [ov_r 1]) (d2 := d - 1) d_26_325 lk_Tape_46 rfl (Nat.le_of_ble_eq_true rfl) U.2.2 rfl (by omega) (c_String_indexOf_II_m3 (d - 1) (by omega) U I78 (h35 2 (h35 1 7)) (by omega)) ?_
                            rintro _ _ _ ⟨v80, rfl, rfl, rfl, f79⟩
                            show ov_R u d ov_m26 328 [(0, ov_r 1)] [ov_i v80, ov_r 1] z34 (ov_up (ov_up h35 1 2 0) 1 5 (h35 2 (h35 1 7))) (P_Tape_advance_1 F z h)
                            have f81 : -1 ≤ v80 ∧ v80 ≤ 8 := f79
                            clear f79
                            refine ov_iflt (tgt := 335) d_26_328 (by decide) (by omega) (fun c82 => ?_) (fun c82 => ?_)
                            · skip
                              refine ov_blk (ls2 := [(0, ov_r 1)]) (st2 := [ov_i 1, ov_r 1]) (pc2 := 336) b_26_335_1 rfl rfl ?_
                              refine ov_putf (x := 1) d_26_336 fl_Tape_34 (zb_1 I78) (zs_1 I78) rfl nk_0 rfl ?_
                              have I83 := up_1_2 (x := 1) I78 (by omega) (hw 1 (by decide +kernel))
                              refine ov_blk (ls2 := [(0, ov_r 1)]) (st2 := [ov_r 1, ov_r 1]) (pc2 := 341) b_26_339_2 rfl rfl ?_
                              refine ov_getf (v := ov_i (h35 1 7)) d_26_341 fl_Tape_21 (zb_1 I83) (zs_1 I83) rfl ?_
                              refine ov_blk (ls2 := [(0, ov_r 1)]) (st2 := [ov_i ((h35 1 7) + 1), ov_r 1]) (pc2 := 346) b_26_344_2 rfl rfl ?_
                              refine ov_putf (x := ((h35 1 7) + 1)) d_26_346 fl_Tape_21 (zb_1 I83) (zs_1 I83) rfl nk_0 rfl ?_
                              have I85 := up_1_7 (x := ((h35 1 7) + 1)) I83 (by omega) (hw 1 (by decide +kernel))
                              exact ov_retv (st := []) d_26_349 rfl ⟨rfl, I85, (by show (h35 3 3) = (h 3 3) ∧ (h35 36 7) = (h 36 7) ∧ (h35 1 1) = (h 1 1) ∧ (h35 90 2) = (h 90 2) ∧ (h35 0 10) = (h 0 10) ∧ (h35 0 11) = (h 0 11) ∧ (h35 0 12) = (h 0 12) ∧ (h35 0 13) = (h 0 13) ∧ (h35 3 1) = (h 3 1) ∧ (h35 36 8) = (h 36 8) ∧ (h35 46 3) = (h 46 3) ∧ (h35 46 4) = (h 46 4) ∧ (h35 49 4) = (h 49 4) ∧ (h35 49 5) = (h 49 5) ∧ (h35 64 0) = (h 64 0) ∧ (h35 76 0) = (h 76 0); omega)⟩
                            · skip
                              refine ov_blk (ls2 := [(0, ov_r 1)]) (st2 := [ov_i 4, ov_r 1]) (pc2 := 332) b_26_331_1 rfl rfl ?_
                              refine ov_goto (tgt := 336) d_26_332 (by decide) ?_
                              refine ov_putf (x := 4) d_26_336 fl_Tape_34 (zb_1 I78) (zs_1 I78) rfl nk_0 rfl ?_
                              have I86 := up_1_2 (x := 4) I78 (by omega) (hw 1 (by decide +kernel))
                              refine ov_blk (ls2 := [(0, ov_r 1)]) (st2 := [ov_r 1, ov_r 1]) (pc2 := 341) b_26_339_2 rfl rfl ?_
                              refine ov_getf (v := ov_i (h35 1 7)) d_26_341 fl_Tape_21 (zb_1 I86) (zs_1 I86) rfl ?_
                              refine ov_blk (ls2 := [(0, ov_r 1)]) (st2 := [ov_i ((h35 1 7) + 1), ov_r 1]) (pc2 := 346) b_26_344_2 rfl rfl ?_
                              refine ov_putf (x := ((h35 1 7) + 1)) d_26_346 fl_Tape_21 (zb_1 I86) (zs_1 I86) rfl nk_0 rfl ?_
                              have I88 := up_1_7 (x := ((h35 1 7) + 1)) I86 (by omega) (hw 1 (by decide +kernel))
                              exact ov_retv (st := []) d_26_349 rfl ⟨rfl, I88, (by show (h35 3 3) = (h 3 3) ∧ (h35 36 7) = (h 36 7) ∧ (h35 1 1) = (h 1 1) ∧ (h35 90 2) = (h 90 2) ∧ (h35 0 10) = (h 0 10) ∧ (h35 0 11) = (h 0 11) ∧ (h35 0 12) = (h 0 12) ∧ (h35 0 13) = (h 0 13) ∧ (h35 3 1) = (h 3 1) ∧ (h35 36 8) = (h 36 8) ∧ (h35 46 3) = (h 46 3) ∧ (h35 46 4) = (h 46 4) ∧ (h35 49 4) = (h 49 4) ∧ (h35 49 5) = (h 49 5) ∧ (h35 64 0) = (h 64 0) ∧ (h35 76 0) = (h 76 0); omega)⟩
                        · skip
                          refine ov_blk (ls2 := [(0, ov_r 1)]) (st2 := [ov_r 1, ov_r 1]) (pc2 := 268) b_26_266_2 rfl rfl ?_
                          refine ov_getf (v := ov_i (h35 1 7)) d_26_268 fl_Tape_21 (zb_1 I36) (zs_1 I36) rfl ?_
                          refine ov_blk (ls2 := [(0, ov_r 1)]) (st2 := [ov_r 1, ov_i (h35 1 7), ov_r 1]) (pc2 := 272) b_26_271_1 rfl rfl ?_
                          refine ov_getf (v := ov_i (h35 1 3)) d_26_272 fl_Tape_27 (zb_1 I36) (zs_1 I36) rfl ?_
                          refine ov_blk (ls2 := [(0, ov_r 1)]) (st2 := [ov_i 4, ov_i ((h35 1 7) - (h35 1 3)), ov_r 1]) (pc2 := 277) b_26_275_2 rfl rfl ?_
                          refine ov_icle (tgt := 284) d_26_277 (by decide) (by omega) (by omega) (fun c91 => ?_) (fun c91 => ?_)
                          · skip
                            refine ov_blk (ls2 := [(0, ov_r 1)]) (st2 := [ov_i 3, ov_r 1]) (pc2 := 285) b_26_284_1 rfl rfl ?_
                            refine ov_putf (x := 3) d_26_285 fl_Tape_34 (zb_1 I36) (zs_1 I36) rfl nk_0 rfl ?_
                            have I92 := up_1_2 (x := 3) I36 (by omega) (hw 1 (by decide +kernel))
                            exact ov_retv (st := []) d_26_288 rfl ⟨rfl, I92, (by show (h35 3 3) = (h 3 3) ∧ (h35 36 7) = (h 36 7) ∧ (h35 1 1) = (h 1 1) ∧ (h35 90 2) = (h 90 2) ∧ (h35 0 10) = (h 0 10) ∧ (h35 0 11) = (h 0 11) ∧ (h35 0 12) = (h 0 12) ∧ (h35 0 13) = (h 0 13) ∧ (h35 3 1) = (h 3 1) ∧ (h35 36 8) = (h 36 8) ∧ (h35 46 3) = (h 46 3) ∧ (h35 46 4) = (h 46 4) ∧ (h35 49 4) = (h 49 4) ∧ (h35 49 5) = (h 49 5) ∧ (h35 64 0) = (h 64 0) ∧ (h35 76 0) = (h 76 0); omega)⟩
                          · skip
                            refine ov_blk (ls2 := [(0, ov_r 1)]) (st2 := [ov_i 1, ov_r 1]) (pc2 := 281) b_26_280_1 rfl rfl ?_
                            refine ov_goto (tgt := 285) d_26_281 (by decide) ?_
                            refine ov_putf (x := 1) d_26_285 fl_Tape_34 (zb_1 I36) (zs_1 I36) rfl nk_0 rfl ?_
                            have I93 := up_1_2 (x := 1) I36 (by omega) (hw 1 (by decide +kernel))
                            exact ov_retv (st := []) d_26_288 rfl ⟨rfl, I93, (by show (h35 3 3) = (h 3 3) ∧ (h35 36 7) = (h 36 7) ∧ (h35 1 1) = (h 1 1) ∧ (h35 90 2) = (h 90 2) ∧ (h35 0 10) = (h 0 10) ∧ (h35 0 11) = (h 0 11) ∧ (h35 0 12) = (h 0 12) ∧ (h35 0 13) = (h 0 13) ∧ (h35 3 1) = (h 3 1) ∧ (h35 36 8) = (h 36 8) ∧ (h35 46 3) = (h 46 3) ∧ (h35 46 4) = (h 46 4) ∧ (h35 49 4) = (h 49 4) ∧ (h35 49 5) = (h 49 5) ∧ (h35 64 0) = (h 64 0) ∧ (h35 76 0) = (h 76 0); omega)⟩
                      · skip
                        refine ov_blk (ls2 := [(0, ov_r 1)]) (st2 := [ov_r 1]) (pc2 := 205) b_26_204_1 rfl rfl ?_
                        refine ov_getf (v := ov_r 2) d_26_205 fl_Tape_9 (zb_1 I36) (zs_1 I36) (congrArg ov_r (rg_1_0 I36)) ?_
                        refine ov_blk (ls2 := [(0, ov_r 1)]) (st2 := [ov_r 1, ov_r 2]) (pc2 := 209) b_26_208_1 rfl rfl ?_
                        refine ov_getf (v := ov_i (h35 1 7)) d_26_209 fl_Tape_21 (zb_1 I36) (zs_1 I36) rfl ?_
                        refine ov_cald d_26_212 (zb_2 I36) (zs_2 I36) (by omega) ?_
                        refine ov_blk (ls2 := [(0, ov_r 1)]) (st2 := [ov_i 57, ov_i (h35 2 (h35 1 7))]) (pc2 := 215) b_26_213_1 rfl rfl ?_
                        refine ov_icgt (tgt := 255) d_26_215 (by decide) (by omega) (by omega) (fun c96 => ?_) (fun c96 => ?_)
                        · skip
                          refine ov_blk (ls2 := [(0, ov_r 1)]) (st2 := [ov_r 1]) (pc2 := 256) b_26_255_1 rfl rfl ?_
                          refine ov_getf (v := ov_i (h35 1 7)) d_26_256 fl_Tape_21 (zb_1 I36) (zs_1 I36) rfl ?_
                          refine ov_blk (ls2 := [(0, ov_r 1)]) (st2 := [ov_r 1, ov_i (h35 1 7)]) (pc2 := 260) b_26_259_1 rfl rfl ?_
                          refine ov_getf (v := ov_i (h35 1 3)) d_26_260 fl_Tape_27 (zb_1 I36) (zs_1 I36) rfl ?_
                          have g98 := rg_1_3 I36
                          refine ov_icle (tgt := 289) d_26_263 (by decide) (by omega) (by omega) (fun c99 => ?_) (fun c99 => ?_)
                          · skip
                            refine ov_blk (ls2 := [(0, ov_r 1)]) (st2 := [ov_i 0, ov_r 1]) (pc2 := 291) b_26_289_2 rfl rfl ?_
                            refine ov_putf (x := 0) d_26_291 fl_Tape_34 (zb_1 I36) (zs_1 I36) rfl nk_0 rfl ?_
                            have I100 := up_1_2 (x := 0) I36 (by omega) (hw 1 (by decide +kernel))
                            refine ov_blk (ls2 := [(0, ov_r 1)]) (st2 := [ov_r 1]) (pc2 := 295) b_26_294_1 rfl rfl ?_
                            refine ov_getf (v := ov_i (h35 1 7)) d_26_295 fl_Tape_21 (zb_1 I100) (zs_1 I100) rfl ?_
                            refine ov_blk (ls2 := [(0, ov_r 1)]) (st2 := [ov_r 1, ov_i (h35 1 7)]) (pc2 := 299) b_26_298_1 rfl rfl ?_
                            refine ov_getf (v := ov_i (h35 1 1)) d_26_299 fl_Tape_17 (zb_1 I100) (zs_1 I100) rfl ?_
                            refine ov_icge (tgt := 349) d_26_302 (by decide) (by omega) (by omega) (fun c103 => ?_) (fun c103 => ?_)
                            · skip
                              exact ov_retv (st := []) d_26_349 rfl ⟨rfl, I100, (by show (h35 3 3) = (h 3 3) ∧ (h35 36 7) = (h 36 7) ∧ (h35 1 1) = (h 1 1) ∧ (h35 90 2) = (h 90 2) ∧ (h35 0 10) = (h 0 10) ∧ (h35 0 11) = (h 0 11) ∧ (h35 0 12) = (h 0 12) ∧ (h35 0 13) = (h 0 13) ∧ (h35 3 1) = (h 3 1) ∧ (h35 36 8) = (h 36 8) ∧ (h35 46 3) = (h 46 3) ∧ (h35 46 4) = (h 46 4) ∧ (h35 49 4) = (h 49 4) ∧ (h35 49 5) = (h 49 5) ∧ (h35 64 0) = (h 64 0) ∧ (h35 76 0) = (h 76 0); omega)⟩
                            · skip
                              refine ov_blk (ls2 := [(0, ov_r 1)]) (st2 := [ov_r 1, ov_r 1]) (pc2 := 307) b_26_305_2 rfl rfl ?_
                              refine ov_getf (v := ov_r 2) d_26_307 fl_Tape_9 (zb_1 I100) (zs_1 I100) (congrArg ov_r (rg_1_0 I100)) ?_
                              refine ov_blk (ls2 := [(0, ov_r 1)]) (st2 := [ov_r 1, ov_r 2, ov_r 1]) (pc2 := 311) b_26_310_1 rfl rfl ?_
                              refine ov_getf (v := ov_i (h35 1 7)) d_26_311 fl_Tape_21 (zb_1 I100) (zs_1 I100) rfl ?_
                              refine ov_cald d_26_314 (zb_2 I100) (zs_2 I100) (by omega) ?_
                              show ov_R u d ov_m26 315 [(0, ov_r 1)] [ov_i (h35 2 (h35 1 7)), ov_r 1] z34 (ov_up h35 1 2 0) (P_Tape_advance_1 F z h)
                              refine ov_putf (x := (h35 2 (h35 1 7))) d_26_315 fl_Tape_40 (zb_1 I100) (zs_1 I100) rfl (nk_4 (by omega)) rfl ?_
                              have I106 := up_1_5 (x := (h35 2 (h35 1 7))) I100 (by omega) (hw 1 (by decide +kernel))
                              refine ov_blk (ls2 := [(0, ov_r 1)]) (st2 := [ov_r 1]) (pc2 := 319) b_26_318_1 rfl rfl ?_
                              refine ov_ldcT d_26_319 rfl U.2.2 ?_
                              refine ov_blk (ls2 := [(0, ov_r 1)]) (st2 := [ov_r 1, ov_r (-3), ov_r 1]) (pc2 := 322) b_26_321_1 rfl rfl ?_
                              refine ov_getf (v := ov_i (h35 2 (h35 1 7))) d_26_322 fl_Tape_40 (zb_1 I106) (zs_1 I106) rfl ?_
                              refine ov_cVS (as := [ov_i (h35 2 (h35 1 7))]) (st := [ov_r 1]) (d2 := d - 1) d_26_325 lk_Tape_46 rfl (Nat.le_of_ble_eq_true rfl) U.2.2 rfl (by omega) (c_String_indexOf_II_m3 (d - 1) (by omega) U I106 (h35 2 (h35 1 7)) (by omega)) ?_
                              rintro _ _ _ ⟨v108, rfl, rfl, rfl, f107⟩
                              show ov_R u d ov_m26 328 [(0, ov_r 1)] [ov_i v108, ov_r 1] z34 (ov_up (ov_up h35 1 2 0) 1 5 (h35 2 (h35 1 7))) (P_Tape_advance_1 F z h)
                              have f109 : -1 ≤ v108 ∧ v108 ≤ 8 := f107
                              clear f107
                              refine ov_iflt (tgt := 335) d_26_328 (by decide) (by omega) (fun c110 => ?_) (fun c110 => ?_)
                              · skip
                                refine ov_blk (ls2 := [(0, ov_r 1)]) (st2 := [ov_i 1, ov_r 1]) (pc2 := 336) b_26_335_1 rfl rfl ?_
                                refine ov_putf (x := 1) d_26_336 fl_Tape_34 (zb_1 I106) (zs_1 I106) rfl nk_0 rfl ?_
                                have I111 := up_1_2 (x := 1) I106 (by omega) (hw 1 (by decide +kernel))
                                refine ov_blk (ls2 := [(0, ov_r 1)]) (st2 := [ov_r 1, ov_r 1]) (pc2 := 341) b_26_339_2 rfl rfl ?_
                                refine ov_getf (v := ov_i (h35 1 7)) d_26_341 fl_Tape_21 (zb_1 I111) (zs_1 I111) rfl ?_
                                refine ov_blk (ls2 := [(0, ov_r 1)]) (st2 := [ov_i ((h35 1 7) + 1), ov_r 1]) (pc2 := 346) b_26_344_2 rfl rfl ?_
                                refine ov_putf (x := ((h35 1 7) + 1)) d_26_346 fl_Tape_21 (zb_1 I111) (zs_1 I111) rfl nk_0 rfl ?_
                                have I113 := up_1_7 (x := ((h35 1 7) + 1)) I111 (by omega) (hw 1 (by decide +kernel))
                                exact ov_retv (st := []) d_26_349 rfl ⟨rfl, I113, (by show (h35 3 3) = (h 3 3) ∧ (h35 36 7) = (h 36 7) ∧ (h35 1 1) = (h 1 1) ∧ (h35 90 2) = (h 90 2) ∧ (h35 0 10) = (h 0 10) ∧ (h35 0 11) = (h 0 11) ∧ (h35 0 12) = (h 0 12) ∧ (h35 0 13) = (h 0 13) ∧ (h35 3 1) = (h 3 1) ∧ (h35 36 8) = (h 36 8) ∧ (h35 46 3) = (h 46 3) ∧ (h35 46 4) = (h 46 4) ∧ (h35 49 4) = (h 49 4) ∧ (h35 49 5) = (h 49 5) ∧ (h35 64 0) = (h 64 0) ∧ (h35 76 0) = (h 76 0); omega)⟩
                              · skip
                                refine ov_blk (ls2 := [(0, ov_r 1)]) (st2 := [ov_i 4, ov_r 1]) (pc2 := 332) b_26_331_1 rfl rfl ?_
                                refine ov_goto (tgt := 336) d_26_332 (by decide) ?_
                                refine ov_putf (x := 4) d_26_336 fl_Tape_34 (zb_1 I106) (zs_1 I106) rfl nk_0 rfl ?_
                                have I114 := up_1_2 (x := 4) I106 (by omega) (hw 1 (by decide +kernel))
                                refine ov_blk (ls2 := [(0, ov_r 1)]) (st2 := [ov_r 1, ov_r 1]) (pc2 := 341) b_26_339_2 rfl rfl ?_
                                refine ov_getf (v := ov_i (h35 1 7)) d_26_341 fl_Tape_21 (zb_1 I114) (zs_1 I114) rfl ?_
                                refine ov_blk (ls2 := [(0, ov_r 1)]) (st2 := [ov_i ((h35 1 7) + 1), ov_r 1]) (pc2 := 346) b_26_344_2 rfl rfl ?_
                                refine ov_putf (x := ((h35 1 7) + 1)) d_26_346 fl_Tape_21 (zb_1 I114) (zs_1 I114) rfl nk_0 rfl ?_
                                have I116 := up_1_7 (x := ((h35 1 7) + 1)) I114 (by omega) (hw 1 (by decide +kernel))
                                exact ov_retv (st := []) d_26_349 rfl ⟨rfl, I116, (by show (h35 3 3) = (h 3 3) ∧ (h35 36 7) = (h 36 7) ∧ (h35 1 1) = (h 1 1) ∧ (h35 90 2) = (h 90 2) ∧ (h35 0 10) = (h 0 10) ∧ (h35 0 11) = (h 0 11) ∧ (h35 0 12) = (h 0 12) ∧ (h35 0 13) = (h 0 13) ∧ (h35 3 1) = (h 3 1) ∧ (h35 36 8) = (h 36 8) ∧ (h35 46 3) = (h 46 3) ∧ (h35 46 4) = (h 46 4) ∧ (h35 49 4) = (h 49 4) ∧ (h35 49 5) = (h 49 5) ∧ (h35 64 0) = (h 64 0) ∧ (h35 76 0) = (h 76 0); omega)⟩
                          · skip
                            refine ov_blk (ls2 := [(0, ov_r 1)]) (st2 := [ov_r 1, ov_r 1]) (pc2 := 268) b_26_266_2 rfl rfl ?_
                            refine ov_getf (v := ov_i (h35 1 7)) d_26_268 fl_Tape_21 (zb_1 I36) (zs_1 I36) rfl ?_
                            refine ov_blk (ls2 := [(0, ov_r 1)]) (st2 := [ov_r 1, ov_i (h35 1 7), ov_r 1]) (pc2 := 272) b_26_271_1 rfl rfl ?_
                            refine ov_getf (v := ov_i (h35 1 3)) d_26_272 fl_Tape_27 (zb_1 I36) (zs_1 I36) rfl ?_
                            refine ov_blk (ls2 := [(0, ov_r 1)]) (st2 := [ov_i 4, ov_i ((h35 1 7) - (h35 1 3)), ov_r 1]) (pc2 := 277) b_26_275_2 rfl rfl ?_
                            refine ov_icle (tgt := 284) d_26_277 (by decide) (by omega) (by omega) (fun c119 => ?_) (fun c119 => ?_)
                            · skip
                              refine ov_blk (ls2 := [(0, ov_r 1)]) (st2 := [ov_i 3, ov_r 1]) (pc2 := 285) b_26_284_1 rfl rfl ?_
                              refine ov_putf (x := 3) d_26_285 fl_Tape_34 (zb_1 I36) (zs_1 I36) rfl nk_0 rfl ?_
                              have I120 := up_1_2 (x := 3) I36 (by omega) (hw 1 (by decide +kernel))
                              exact ov_retv (st := []) d_26_288 rfl ⟨rfl, I120, (by show (h35 3 3) = (h 3 3) ∧ (h35 36 7) = (h 36 7) ∧ (h35 1 1) = (h 1 1) ∧ (h35 90 2) = (h 90 2) ∧ (h35 0 10) = (h 0 10) ∧ (h35 0 11) = (h 0 11) ∧ (h35 0 12) = (h 0 12) ∧ (h35 0 13) = (h 0 13) ∧ (h35 3 1) = (h 3 1) ∧ (h35 36 8) = (h 36 8) ∧ (h35 46 3) = (h 46 3) ∧ (h35 46 4) = (h 46 4) ∧ (h35 49 4) = (h 49 4) ∧ (h35 49 5) = (h 49 5) ∧ (h35 64 0) = (h 64 0) ∧ (h35 76 0) = (h 76 0); omega)⟩
                            · skip
                              refine ov_blk (ls2 := [(0, ov_r 1)]) (st2 := [ov_i 1, ov_r 1]) (pc2 := 281) b_26_280_1 rfl rfl ?_
                              refine ov_goto (tgt := 285) d_26_281 (by decide) ?_
                              refine ov_putf (x := 1) d_26_285 fl_Tape_34 (zb_1 I36) (zs_1 I36) rfl nk_0 rfl ?_
                              have I121 := up_1_2 (x := 1) I36 (by omega) (hw 1 (by decide +kernel))
                              exact ov_retv (st := []) d_26_288 rfl ⟨rfl, I121, (by show (h35 3 3) = (h 3 3) ∧ (h35 36 7) = (h 36 7) ∧ (h35 1 1) = (h 1 1) ∧ (h35 90 2) = (h 90 2) ∧ (h35 0 10) = (h 0 10) ∧ (h35 0 11) = (h 0 11) ∧ (h35 0 12) = (h 0 12) ∧ (h35 0 13) = (h 0 13) ∧ (h35 3 1) = (h 3 1) ∧ (h35 36 8) = (h 36 8) ∧ (h35 46 3) = (h 46 3) ∧ (h35 46 4) = (h 46 4) ∧ (h35 49 4) = (h 49 4) ∧ (h35 49 5) = (h 49 5) ∧ (h35 64 0) = (h 64 0) ∧ (h35 76 0) = (h 76 0); omega)⟩
                        · skip
                          refine ov_blk (ls2 := [(0, ov_r 1)]) (st2 := [ov_r 1, ov_r 1]) (pc2 := 220) b_26_218_2 rfl rfl ?_
                          refine ov_getf (v := ov_i (h35 1 4)) d_26_220 fl_Tape_37 (zb_1 I36) (zs_1 I36) rfl ?_
                          have g122 := rg_1_4 I36
                          refine ov_blk (ls2 := [(0, ov_r 1)]) (st2 := [ov_i ((h35 1 4) * 10), ov_r 1]) (pc2 := 226) b_26_223_2 rfl rfl ?_
                          refine ov_hav (fun w123 gw123 => ?_)
                          refine ov_blk (ls2 := [(0, ov_r 1)]) (st2 := [ov_r 1, ov_i w123, ov_r 1]) (pc2 := 227) b_26_226_1 rfl rfl ?_
                          refine ov_getf (v := ov_r 2) d_26_227 fl_Tape_9 (zb_1 I36) (zs_1 I36) (congrArg ov_r (rg_1_0 I36)) ?_
                          refine ov_blk (ls2 := [(0, ov_r 1)]) (st2 := [ov_r 1, ov_r 2, ov_i w123, ov_r 1]) (pc2 := 231) b_26_230_1 rfl rfl ?_
                          refine ov_getf (v := ov_i (h35 1 7)) d_26_231 fl_Tape_21 (zb_1 I36) (zs_1 I36) rfl ?_
                          refine ov_cald d_26_234 (zb_2 I36) (zs_2 I36) (by omega) ?_
                          refine ov_blk (ls2 := [(0, ov_r 1)]) (st2 := [ov_i (w123 + (h35 2 (h35 1 7))), ov_r 1]) (pc2 := 236) b_26_235_1 rfl rfl ?_
                          refine ov_hav (fun w126 gw126 => ?_)
                          refine ov_blk (ls2 := [(0, ov_r 1)]) (st2 := [ov_i (w126 - 48), ov_r 1]) (pc2 := 239) b_26_236_2 rfl rfl ?_
                          refine ov_hav (fun w127 gw127 => ?_)
                          refine ov_putf (x := w127) d_26_239 fl_Tape_37 (zb_1 I36) (zs_1 I36) rfl nk_0 rfl ?_
                          have I128 := up_1_4 (x := w127) I36 (by omega) (hw 1 (by decide +kernel))
                          refine ov_blk (ls2 := [(0, ov_r 1)]) (st2 := [ov_r 1, ov_r 1]) (pc2 := 244) b_26_242_2 rfl rfl ?_
                          refine ov_getf (v := ov_i (h35 1 7)) d_26_244 fl_Tape_21 (zb_1 I128) (zs_1 I128) rfl ?_
                          refine ov_blk (ls2 := [(0, ov_r 1)]) (st2 := [ov_i ((h35 1 7) + 1), ov_r 1]) (pc2 := 249) b_26_247_2 rfl rfl ?_
                          refine ov_putf (x := ((h35 1 7) + 1)) d_26_249 fl_Tape_21 (zb_1 I128) (zs_1 I128) rfl nk_0 rfl ?_
                          have I130 := up_1_7 (x := ((h35 1 7) + 1)) I128 (by omega) (hw 1 (by decide +kernel))
                          refine ov_goto (tgt := 179) d_26_252 (by decide) ?_
                          exact ih31  _ _ I130 (by show (h35 3 3) = (h 3 3) ∧ 0 ≤ ((h35 1 7) + 1) ∧ ((h35 1 7) + 1) ≤ 1000 ∧ (h35 36 7) = (h 36 7) ∧ (h35 1 1) = (h 1 1) ∧ (h35 90 2) = (h 90 2) ∧ (h35 0 10) = (h 0 10) ∧ (h35 0 11) = (h 0 11) ∧ (h35 0 12) = (h 0 12) ∧ (h35 0 13) = (h 0 13) ∧ (h35 3 1) = (h 3 1) ∧ (h35 36 8) = (h 36 8) ∧ (h35 46 3) = (h 46 3) ∧ (h35 46 4) = (h 46 4) ∧ (h35 49 4) = (h 49 4) ∧ (h35 49 5) = (h 49 5) ∧ (h35 64 0) = (h 64 0) ∧ (h35 76 0) = (h 76 0); omega) (by show 1000 - ((h35 1 7) + 1) < _; omega)
                exact L33 1001  _ _ I29 (by show (h20 3 3) = (h 3 3) ∧ 0 ≤ (h20 1 7) ∧ (h20 1 7) ≤ 1000 ∧ (h20 36 7) = (h 36 7) ∧ (h20 1 1) = (h 1 1) ∧ (h20 90 2) = (h 90 2) ∧ (h20 0 10) = (h 0 10) ∧ (h20 0 11) = (h 0 11) ∧ (h20 0 12) = (h 0 12) ∧ (h20 0 13) = (h 0 13) ∧ (h20 3 1) = (h 3 1) ∧ (h20 36 8) = (h 36 8) ∧ (h20 46 3) = (h 46 3) ∧ (h20 46 4) = (h 46 4) ∧ (h20 49 4) = (h 49 4) ∧ (h20 49 5) = (h 49 5) ∧ (h20 64 0) = (h 64 0) ∧ (h20 76 0) = (h 76 0); omega) (by show 1000 - (h20 1 7) < _; omega)
              · skip
                refine ov_blk (ls2 := [(0, ov_r 1)]) (st2 := [ov_r 1, ov_r 1]) (pc2 := 152) b_26_150_2 rfl rfl ?_
                refine ov_getf (v := ov_i (h20 1 7)) d_26_152 fl_Tape_21 (zb_1 I21) (zs_1 I21) rfl ?_
                refine ov_blk (ls2 := [(0, ov_r 1)]) (st2 := [ov_r 1, ov_i (h20 1 7), ov_r 1]) (pc2 := 156) b_26_155_1 rfl rfl ?_
                refine ov_getf (v := ov_i (h20 1 3)) d_26_156 fl_Tape_27 (zb_1 I21) (zs_1 I21) rfl ?_
                refine ov_blk (ls2 := [(0, ov_r 1)]) (st2 := [ov_i 8, ov_i ((h20 1 7) - (h20 1 3)), ov_r 1]) (pc2 := 162) b_26_159_2 rfl rfl ?_
                refine ov_icle (tgt := 169) d_26_162 (by decide) (by omega) (by omega) (fun c133 => ?_) (fun c133 => ?_)
                · skip
                  refine ov_blk (ls2 := [(0, ov_r 1)]) (st2 := [ov_i 2, ov_r 1]) (pc2 := 170) b_26_169_1 rfl rfl ?_
                  refine ov_putf (x := 2) d_26_170 fl_Tape_34 (zb_1 I21) (zs_1 I21) rfl nk_0 rfl ?_
                  have I134 := up_1_2 (x := 2) I21 (by omega) (hw 1 (by decide +kernel))
                  exact ov_retv (st := []) d_26_173 rfl ⟨rfl, I134, (by show (h20 3 3) = (h 3 3) ∧ (h20 36 7) = (h 36 7) ∧ (h20 1 1) = (h 1 1) ∧ (h20 90 2) = (h 90 2) ∧ (h20 0 10) = (h 0 10) ∧ (h20 0 11) = (h 0 11) ∧ (h20 0 12) = (h 0 12) ∧ (h20 0 13) = (h 0 13) ∧ (h20 3 1) = (h 3 1) ∧ (h20 36 8) = (h 36 8) ∧ (h20 46 3) = (h 46 3) ∧ (h20 46 4) = (h 46 4) ∧ (h20 49 4) = (h 49 4) ∧ (h20 49 5) = (h 49 5) ∧ (h20 64 0) = (h 64 0) ∧ (h20 76 0) = (h 76 0); omega)⟩
                · skip
                  refine ov_blk (ls2 := [(0, ov_r 1)]) (st2 := [ov_i 1, ov_r 1]) (pc2 := 166) b_26_165_1 rfl rfl ?_
                  refine ov_goto (tgt := 170) d_26_166 (by decide) ?_
                  refine ov_putf (x := 1) d_26_170 fl_Tape_34 (zb_1 I21) (zs_1 I21) rfl nk_0 rfl ?_
                  have I135 := up_1_2 (x := 1) I21 (by omega) (hw 1 (by decide +kernel))
                  exact ov_retv (st := []) d_26_173 rfl ⟨rfl, I135, (by show (h20 3 3) = (h 3 3) ∧ (h20 36 7) = (h 36 7) ∧ (h20 1 1) = (h 1 1) ∧ (h20 90 2) = (h 90 2) ∧ (h20 0 10) = (h 0 10) ∧ (h20 0 11) = (h 0 11) ∧ (h20 0 12) = (h 0 12) ∧ (h20 0 13) = (h 0 13) ∧ (h20 3 1) = (h 3 1) ∧ (h20 36 8) = (h 36 8) ∧ (h20 46 3) = (h 46 3) ∧ (h20 46 4) = (h 46 4) ∧ (h20 49 4) = (h 49 4) ∧ (h20 49 5) = (h 49 5) ∧ (h20 64 0) = (h 64 0) ∧ (h20 76 0) = (h 76 0); omega)⟩
            · skip
              refine ov_blk (ls2 := [(0, ov_r 1)]) (st2 := [ov_r 1]) (pc2 := 77) b_26_76_1 rfl rfl ?_
              refine ov_getf (v := ov_r 2) d_26_77 fl_Tape_9 (zb_1 I21) (zs_1 I21) (congrArg ov_r (rg_1_0 I21)) ?_
              refine ov_blk (ls2 := [(0, ov_r 1)]) (st2 := [ov_r 1, ov_r 2]) (pc2 := 81) b_26_80_1 rfl rfl ?_
              refine ov_getf (v := ov_i (h20 1 7)) d_26_81 fl_Tape_21 (zb_1 I21) (zs_1 I21) rfl ?_
              refine ov_cald d_26_84 (zb_2 I21) (zs_2 I21) (by omega) ?_
              have g137 := ra_2 I21 (h20 1 7)
              refine ov_blk (ls2 := [(0, ov_r 1)]) (st2 := [ov_i 97, ov_i (h20 2 (h20 1 7))]) (pc2 := 87) b_26_85_1 rfl rfl ?_
              refine ov_iclt (tgt := 139) d_26_87 (by decide) (by omega) (by omega) (fun c138 => ?_) (fun c138 => ?_)
              · skip
                refine ov_blk (ls2 := [(0, ov_r 1)]) (st2 := [ov_r 1]) (pc2 := 140) b_26_139_1 rfl rfl ?_
                refine ov_getf (v := ov_i (h20 1 7)) d_26_140 fl_Tape_21 (zb_1 I21) (zs_1 I21) rfl ?_
                refine ov_blk (ls2 := [(0, ov_r 1)]) (st2 := [ov_r 1, ov_i (h20 1 7)]) (pc2 := 144) b_26_143_1 rfl rfl ?_
                refine ov_getf (v := ov_i (h20 1 3)) d_26_144 fl_Tape_27 (zb_1 I21) (zs_1 I21) rfl ?_
                have g140 := rg_1_3 I21
                refine ov_icle (tgt := 174) d_26_147 (by decide) (by omega) (by omega) (fun c141 => ?_) (fun c141 => ?_)
                · skip
                  refine ov_blk (ls2 := [(0, ov_r 1)]) (st2 := [ov_i 0, ov_r 1]) (pc2 := 176) b_26_174_2 rfl rfl ?_
                  refine ov_putf (x := 0) d_26_176 fl_Tape_37 (zb_1 I21) (zs_1 I21) rfl nk_0 rfl ?_
                  have I142 := up_1_4 (x := 0) I21 (by omega) (hw 1 (by decide +kernel))
                  have L146 : ∀ (n143 : Nat) (z147 : ov_Z) (h148 : ov_H) (I149 : ov_I F z147 h148) (q145 : (h148 3 3) = (h 3 3) ∧ 0 ≤ (h148 1 7) ∧ (h148 1 7) ≤ 1000 ∧ (h148 36 7) = (h 36 7) ∧ (h148 1 1) = (h 1 1) ∧ (h148 90 2) = (h 90 2) ∧ (h148 0 10) = (h 0 10) ∧ (h148 0 11) = (h 0 11) ∧ (h148 0 12) = (h 0 12) ∧ (h148 0 13) = (h 0 13) ∧ (h148 3 1) = (h 3 1) ∧ (h148 36 8) = (h 36 8) ∧ (h148 46 3) = (h 46 3) ∧ (h148 46 4) = (h 46 4) ∧ (h148 49 4) = (h 49 4) ∧ (h148 49 5) = (h 49 5) ∧ (h148 64 0) = (h 64 0) ∧ (h148 76 0) = (h 76 0)), 1000 - (h148 1 7) < (n143 : Int) → ov_R u d ov_m26 179 [(0, ov_r 1)] [] z147 h148 (P_Tape_advance_1 F z h) := by
                    intro n143
                    induction n143 with
                    | zero =>
                      intro  z147 h148 I149 q145 hn150
                      exact absurd hn150 (by omega)
                    | succ n143 ih144 =>
                      intro  z147 h148 I149 q145 hn150
                      refine ov_blk (ls2 := [(0, ov_r 1)]) (st2 := [ov_r 1]) (pc2 := 180) b_26_179_1 rfl rfl ?_
                      refine ov_getf (v := ov_i (h148 1 7)) d_26_180 fl_Tape_21 (zb_1 I149) (zs_1 I149) rfl ?_
                      have g151 := rg_1_7 I149
                      refine ov_blk (ls2 := [(0, ov_r 1)]) (st2 := [ov_r 1, ov_i (h148 1 7)]) (pc2 := 184) b_26_183_1 rfl rfl ?_
                      refine ov_getf (v := ov_i (h148 1 1)) d_26_184 fl_Tape_17 (zb_1 I149) (zs_1 I149) rfl ?_
                      have g152 := rg_1_1 I149
                      refine ov_icge (tgt := 255) d_26_187 (by decide) (by omega) (by omega) (fun c153 => ?_) (fun c153 => ?_)
                      · skip
                        refine ov_blk (ls2 := [(0, ov_r 1)]) (st2 := [ov_r 1]) (pc2 := 256) b_26_255_1 rfl rfl ?_
                        refine ov_getf (v := ov_i (h148 1 7)) d_26_256 fl_Tape_21 (zb_1 I149) (zs_1 I149) rfl ?_
                        refine ov_blk (ls2 := [(0, ov_r 1)]) (st2 := [ov_r 1, ov_i (h148 1 7)]) (pc2 := 260) b_26_259_1 rfl rfl ?_
                        refine ov_getf (v := ov_i (h148 1 3)) d_26_260 fl_Tape_27 (zb_1 I149) (zs_1 I149) rfl ?_
                        have g155 := rg_1_3 I149
                        refine ov_icle (tgt := 289) d_26_263 (by decide) (by omega) (by omega) (fun c156 => ?_) (fun c156 => ?_)
                        · skip
                          refine ov_blk (ls2 := [(0, ov_r 1)]) (st2 := [ov_i 0, ov_r 1]) (pc2 := 291) b_26_289_2 rfl rfl ?_
                          refine ov_putf (x := 0) d_26_291 fl_Tape_34 (zb_1 I149) (zs_1 I149) rfl nk_0 rfl ?_
                          have I157 := up_1_2 (x := 0) I149 (by omega) (hw 1 (by decide +kernel))
                          refine ov_blk (ls2 := [(0, ov_r 1)]) (st2 := [ov_r 1]) (pc2 := 295) b_26_294_1 rfl rfl ?_
                          refine ov_getf (v := ov_i (h148 1 7)) d_26_295 fl_Tape_21 (zb_1 I157) (zs_1 I157) rfl ?_
                          refine ov_blk (ls2 := [(0, ov_r 1)]) (st2 := [ov_r 1, ov_i (h148 1 7)]) (pc2 := 299) b_26_298_1 rfl rfl ?_
                          refine ov_getf (v := ov_i (h148 1 1)) d_26_299 fl_Tape_17 (zb_1 I157) (zs_1 I157) rfl ?_
                          refine ov_icge (tgt := 349) d_26_302 (by decide) (by omega) (by omega) (fun c160 => ?_) (fun c160 => ?_)
                          · skip
                            exact ov_retv (st := []) d_26_349 rfl ⟨rfl, I157, (by show (h148 3 3) = (h 3 3) ∧ (h148 36 7) = (h 36 7) ∧ (h148 1 1) = (h 1 1) ∧ (h148 90 2) = (h 90 2) ∧ (h148 0 10) = (h 0 10) ∧ (h148 0 11) = (h 0 11) ∧ (h148 0 12) = (h 0 12) ∧ (h148 0 13) = (h 0 13) ∧ (h148 3 1) = (h 3 1) ∧ (h148 36 8) = (h 36 8) ∧ (h148 46 3) = (h 46 3) ∧ (h148 46 4) = (h 46 4) ∧ (h148 49 4) = (h 49 4) ∧ (h148 49 5) = (h 49 5) ∧ (h148 64 0) = (h 64 0) ∧ (h148 76 0) = (h 76 0); omega)⟩
                          · skip
                            refine ov_blk (ls2 := [(0, ov_r 1)]) (st2 := [ov_r 1, ov_r 1]) (pc2 := 307) b_26_305_2 rfl rfl ?_
                            refine ov_getf (v := ov_r 2) d_26_307 fl_Tape_9 (zb_1 I157) (zs_1 I157) (congrArg ov_r (rg_1_0 I157)) ?_
                            refine ov_blk (ls2 := [(0, ov_r 1)]) (st2 := [ov_r 1, ov_r 2, ov_r 1]) (pc2 := 311) b_26_310_1 rfl rfl ?_
                            refine ov_getf (v := ov_i (h148 1 7)) d_26_311 fl_Tape_21 (zb_1 I157) (zs_1 I157) rfl ?_
                            refine ov_cald d_26_314 (zb_2 I157) (zs_2 I157) (by omega) ?_
                            show ov_R u d ov_m26 315 [(0, ov_r 1)] [ov_i (h148 2 (h148 1 7)), ov_r 1] z147 (ov_up h148 1 2 0) (P_Tape_advance_1 F z h)
                            have g162 := ra_2 I149 (h148 1 7)
                            refine ov_putf (x := (h148 2 (h148 1 7))) d_26_315 fl_Tape_40 (zb_1 I157) (zs_1 I157) rfl (nk_4 (by omega)) rfl ?_
                            have I163 := up_1_5 (x := (h148 2 (h148 1 7))) I157 (by omega) (hw 1 (by decide +kernel))
                            refine ov_blk (ls2 := [(0, ov_r 1)]) (st2 := [ov_r 1]) (pc2 := 319) b_26_318_1 rfl rfl ?_
                            refine ov_ldcT d_26_319 rfl U.2.2 ?_
                            refine ov_blk (ls2 := [(0, ov_r 1)]) (st2 := [ov_r 1, ov_r (-3), ov_r 1]) (pc2 := 322) b_26_321_1 rfl rfl ?_
                            refine ov_getf (v := ov_i (h148 2 (h148 1 7))) d_26_322 fl_Tape_40 (zb_1 I163) (zs_1 I163) rfl ?_
                            refine ov_cVS (as := [ov_i (h148 2 (h148 1 7))]) (st := [ov_r 1]) (d2 := d - 1) d_26_325 lk_Tape_46 rfl (Nat.le_of_ble_eq_true rfl) U.2.2 rfl (by omega) (c_String_indexOf_II_m3 (d - 1) (by omega) U I163 (h148 2 (h148 1 7)) (by omega)) ?_
                            rintro _ _ _ ⟨v165, rfl, rfl, rfl, f164⟩
                            show ov_R u d ov_m26 328 [(0, ov_r 1)] [ov_i v165, ov_r 1] z147 (ov_up (ov_up h148 1 2 0) 1 5 (h148 2 (h148 1 7))) (P_Tape_advance_1 F z h)
                            have f166 : -1 ≤ v165 ∧ v165 ≤ 8 := f164
                            clear f164
                            refine ov_iflt (tgt := 335) d_26_328 (by decide) (by omega) (fun c167 => ?_) (fun c167 => ?_)
                            · skip
                              refine ov_blk (ls2 := [(0, ov_r 1)]) (st2 := [ov_i 1, ov_r 1]) (pc2 := 336) b_26_335_1 rfl rfl ?_
                              refine ov_putf (x := 1) d_26_336 fl_Tape_34 (zb_1 I163) (zs_1 I163) rfl nk_0 rfl ?_
                              have I168 := up_1_2 (x := 1) I163 (by omega) (hw 1 (by decide +kernel))
                              refine ov_blk (ls2 := [(0, ov_r 1)]) (st2 := [ov_r 1, ov_r 1]) (pc2 := 341) b_26_339_2 rfl rfl ?_
                              refine ov_getf (v := ov_i (h148 1 7)) d_26_341 fl_Tape_21 (zb_1 I168) (zs_1 I168) rfl ?_
                              refine ov_blk (ls2 := [(0, ov_r 1)]) (st2 := [ov_i ((h148 1 7) + 1), ov_r 1]) (pc2 := 346) b_26_344_2 rfl rfl ?_
                              refine ov_putf (x := ((h148 1 7) + 1)) d_26_346 fl_Tape_21 (zb_1 I168) (zs_1 I168) rfl nk_0 rfl ?_
                              have I170 := up_1_7 (x := ((h148 1 7) + 1)) I168 (by omega) (hw 1 (by decide +kernel))
                              exact ov_retv (st := []) d_26_349 rfl ⟨rfl, I170, (by show (h148 3 3) = (h 3 3) ∧ (h148 36 7) = (h 36 7) ∧ (h148 1 1) = (h 1 1) ∧ (h148 90 2) = (h 90 2) ∧ (h148 0 10) = (h 0 10) ∧ (h148 0 11) = (h 0 11) ∧ (h148 0 12) = (h 0 12) ∧ (h148 0 13) = (h 0 13) ∧ (h148 3 1) = (h 3 1) ∧ (h148 36 8) = (h 36 8) ∧ (h148 46 3) = (h 46 3) ∧ (h148 46 4) = (h 46 4) ∧ (h148 49 4) = (h 49 4) ∧ (h148 49 5) = (h 49 5) ∧ (h148 64 0) = (h 64 0) ∧ (h148 76 0) = (h 76 0); omega)⟩
                            · skip
                              refine ov_blk (ls2 := [(0, ov_r 1)]) (st2 := [ov_i 4, ov_r 1]) (pc2 := 332) b_26_331_1 rfl rfl ?_
                              refine ov_goto (tgt := 336) d_26_332 (by decide) ?_
                              refine ov_putf (x := 4) d_26_336 fl_Tape_34 (zb_1 I163) (zs_1 I163) rfl nk_0 rfl ?_
                              have I171 := up_1_2 (x := 4) I163 (by omega) (hw 1 (by decide +kernel))
                              refine ov_blk (ls2 := [(0, ov_r 1)]) (st2 := [ov_r 1, ov_r 1]) (pc2 := 341) b_26_339_2 rfl rfl ?_
                              refine ov_getf (v := ov_i (h148 1 7)) d_26_341 fl_Tape_21 (zb_1 I171) (zs_1 I171) rfl ?_
                              refine ov_blk (ls2 := [(0, ov_r 1)]) (st2 := [ov_i ((h148 1 7) + 1), ov_r 1]) (pc2 := 346) b_26_344_2 rfl rfl ?_
                              refine ov_putf (x := ((h148 1 7) + 1)) d_26_346 fl_Tape_21 (zb_1 I171) (zs_1 I171) rfl nk_0 rfl ?_
                              have I173 := up_1_7 (x := ((h148 1 7) + 1)) I171 (by omega) (hw 1 (by decide +kernel))
                              exact ov_retv (st := []) d_26_349 rfl ⟨rfl, I173, (by show (h148 3 3) = (h 3 3) ∧ (h148 36 7) = (h 36 7) ∧ (h148 1 1) = (h 1 1) ∧ (h148 90 2) = (h 90 2) ∧ (h148 0 10) = (h 0 10) ∧ (h148 0 11) = (h 0 11) ∧ (h148 0 12) = (h 0 12) ∧ (h148 0 13) = (h 0 13) ∧ (h148 3 1) = (h 3 1) ∧ (h148 36 8) = (h 36 8) ∧ (h148 46 3) = (h 46 3) ∧ (h148 46 4) = (h 46 4) ∧ (h148 49 4) = (h 49 4) ∧ (h148 49 5) = (h 49 5) ∧ (h148 64 0) = (h 64 0) ∧ (h148 76 0) = (h 76 0); omega)⟩
                        · skip
                          refine ov_blk (ls2 := [(0, ov_r 1)]) (st2 := [ov_r 1, ov_r 1]) (pc2 := 268) b_26_266_2 rfl rfl ?_
                          refine ov_getf (v := ov_i (h148 1 7)) d_26_268 fl_Tape_21 (zb_1 I149) (zs_1 I149) rfl ?_
                          refine ov_blk (ls2 := [(0, ov_r 1)]) (st2 := [ov_r 1, ov_i (h148 1 7), ov_r 1]) (pc2 := 272) b_26_271_1 rfl rfl ?_
                          refine ov_getf (v := ov_i (h148 1 3)) d_26_272 fl_Tape_27 (zb_1 I149) (zs_1 I149) rfl ?_
                          refine ov_blk (ls2 := [(0, ov_r 1)]) (st2 := [ov_i 4, ov_i ((h148 1 7) - (h148 1 3)), ov_r 1]) (pc2 := 277) b_26_275_2 rfl rfl ?_
                          refine ov_icle (tgt := 284) d_26_277 (by decide) (by omega) (by omega) (fun c176 => ?_) (fun c176 => ?_)
                          · skip
                            refine ov_blk (ls2 := [(0, ov_r 1)]) (st2 := [ov_i 3, ov_r 1]) (pc2 := 285) b_26_284_1 rfl rfl ?_
                            refine ov_putf (x := 3) d_26_285 fl_Tape_34 (zb_1 I149) (zs_1 I149) rfl nk_0 rfl ?_
                            have I177 := up_1_2 (x := 3) I149 (by omega) (hw 1 (by decide +kernel))
                            exact ov_retv (st := []) d_26_288 rfl ⟨rfl, I177, (by show (h148 3 3) = (h 3 3) ∧ (h148 36 7) = (h 36 7) ∧ (h148 1 1) = (h 1 1) ∧ (h148 90 2) = (h 90 2) ∧ (h148 0 10) = (h 0 10) ∧ (h148 0 11) = (h 0 11) ∧ (h148 0 12) = (h 0 12) ∧ (h148 0 13) = (h 0 13) ∧ (h148 3 1) = (h 3 1) ∧ (h148 36 8) = (h 36 8) ∧ (h148 46 3) = (h 46 3) ∧ (h148 46 4) = (h 46 4) ∧ (h148 49 4) = (h 49 4) ∧ (h148 49 5) = (h 49 5) ∧ (h148 64 0) = (h 64 0) ∧ (h148 76 0) = (h 76 0); omega)⟩
                          · skip
                            refine ov_blk (ls2 := [(0, ov_r 1)]) (st2 := [ov_i 1, ov_r 1]) (pc2 := 281) b_26_280_1 rfl rfl ?_
                            refine ov_goto (tgt := 285) d_26_281 (by decide) ?_
                            refine ov_putf (x := 1) d_26_285 fl_Tape_34 (zb_1 I149) (zs_1 I149) rfl nk_0 rfl ?_
                            have I178 := up_1_2 (x := 1) I149 (by omega) (hw 1 (by decide +kernel))
                            exact ov_retv (st := []) d_26_288 rfl ⟨rfl, I178, (by show (h148 3 3) = (h 3 3) ∧ (h148 36 7) = (h 36 7) ∧ (h148 1 1) = (h 1 1) ∧ (h148 90 2) = (h 90 2) ∧ (h148 0 10) = (h 0 10) ∧ (h148 0 11) = (h 0 11) ∧ (h148 0 12) = (h 0 12) ∧ (h148 0 13) = (h 0 13) ∧ (h148 3 1) = (h 3 1) ∧ (h148 36 8) = (h 36 8) ∧ (h148 46 3) = (h 46 3) ∧ (h148 46 4) = (h 46 4) ∧ (h148 49 4) = (h 49 4) ∧ (h148 49 5) = (h 49 5) ∧ (h148 64 0) = (h 64 0) ∧ (h148 76 0) = (h 76 0); omega)⟩
                      · skip
                        refine ov_blk (ls2 := [(0, ov_r 1)]) (st2 := [ov_r 1]) (pc2 := 191) b_26_190_1 rfl rfl ?_
                        refine ov_getf (v := ov_r 2) d_26_191 fl_Tape_9 (zb_1 I149) (zs_1 I149) (congrArg ov_r (rg_1_0 I149)) ?_
                        refine ov_blk (ls2 := [(0, ov_r 1)]) (st2 := [ov_r 1, ov_r 2]) (pc2 := 195) b_26_194_1 rfl rfl ?_
                        refine ov_getf (v := ov_i (h148 1 7)) d_26_195 fl_Tape_21 (zb_1 I149) (zs_1 I149) rfl ?_
                        refine ov_cald d_26_198 (zb_2 I149) (zs_2 I149) (by omega) ?_
                        have g180 := ra_2 I149 (h148 1 7)
                        refine ov_blk (ls2 := [(0, ov_r 1)]) (st2 := [ov_i 48, ov_i (h148 2 (h148 1 7))]) (pc2 := 201) b_26_199_1 rfl rfl ?_
                        refine ov_iclt (tgt := 255) d_26_201 (by decide) (by omega) (by omega) (fun c181 => ?_) (fun c181 => ?_)
                        · skip
                          refine ov_blk (ls2 := [(0, ov_r 1)]) (st2 := [ov_r 1]) (pc2 := 256) b_26_255_1 rfl rfl ?_
                          refine ov_getf (v := ov_i (h148 1 7)) d_26_256 fl_Tape_21 (zb_1 I149) (zs_1 I149) rfl ?_
                          refine ov_blk (ls2 := [(0, ov_r 1)]) (st2 := [ov_r 1, ov_i (h148 1 7)]) (pc2 := 260) b_26_259_1 rfl rfl ?_
                          refine ov_getf (v := ov_i (h148 1 3)) d_26_260 fl_Tape_27 (zb_1 I149) (zs_1 I149) rfl ?_
                          have g183 := rg_1_3 I149
                          refine ov_icle (tgt := 289) d_26_263 (by decide) (by omega) (by omega) (fun c184 => ?_) (fun c184 => ?_)
                          · skip
                            refine ov_blk (ls2 := [(0, ov_r 1)]) (st2 := [ov_i 0, ov_r 1]) (pc2 := 291) b_26_289_2 rfl rfl ?_
                            refine ov_putf (x := 0) d_26_291 fl_Tape_34 (zb_1 I149) (zs_1 I149) rfl nk_0 rfl ?_
                            have I185 := up_1_2 (x := 0) I149 (by omega) (hw 1 (by decide +kernel))
                            refine ov_blk (ls2 := [(0, ov_r 1)]) (st2 := [ov_r 1]) (pc2 := 295) b_26_294_1 rfl rfl ?_
                            refine ov_getf (v := ov_i (h148 1 7)) d_26_295 fl_Tape_21 (zb_1 I185) (zs_1 I185) rfl ?_
                            refine ov_blk (ls2 := [(0, ov_r 1)]) (st2 := [ov_r 1, ov_i (h148 1 7)]) (pc2 := 299) b_26_298_1 rfl rfl ?_
                            refine ov_getf (v := ov_i (h148 1 1)) d_26_299 fl_Tape_17 (zb_1 I185) (zs_1 I185) rfl ?_
                            refine ov_icge (tgt := 349) d_26_302 (by decide) (by omega) (by omega) (fun c188 => ?_) (fun c188 => ?_)
                            · skip
                              exact ov_retv (st := []) d_26_349 rfl ⟨rfl, I185, (by show (h148 3 3) = (h 3 3) ∧ (h148 36 7) = (h 36 7) ∧ (h148 1 1) = (h 1 1) ∧ (h148 90 2) = (h 90 2) ∧ (h148 0 10) = (h 0 10) ∧ (h148 0 11) = (h 0 11) ∧ (h148 0 12) = (h 0 12) ∧ (h148 0 13) = (h 0 13) ∧ (h148 3 1) = (h 3 1) ∧ (h148 36 8) = (h 36 8) ∧ (h148 46 3) = (h 46 3) ∧ (h148 46 4) = (h 46 4) ∧ (h148 49 4) = (h 49 4) ∧ (h148 49 5) = (h 49 5) ∧ (h148 64 0) = (h 64 0) ∧ (h148 76 0) = (h 76 0); omega)⟩
                            · skip
                              refine ov_blk (ls2 := [(0, ov_r 1)]) (st2 := [ov_r 1, ov_r 1]) (pc2 := 307) b_26_305_2 rfl rfl ?_
                              refine ov_getf (v := ov_r 2) d_26_307 fl_Tape_9 (zb_1 I185) (zs_1 I185) (congrArg ov_r (rg_1_0 I185)) ?_
                              refine ov_blk (ls2 := [(0, ov_r 1)]) (st2 := [ov_r 1, ov_r 2, ov_r 1]) (pc2 := 311) b_26_310_1 rfl rfl ?_
                              refine ov_getf (v := ov_i (h148 1 7)) d_26_311 fl_Tape_21 (zb_1 I185) (zs_1 I185) rfl ?_
                              refine ov_cald d_26_314 (zb_2 I185) (zs_2 I185) (by omega) ?_
                              show ov_R u d ov_m26 315 [(0, ov_r 1)] [ov_i (h148 2 (h148 1 7)), ov_r 1] z147 (ov_up h148 1 2 0) (P_Tape_advance_1 F z h)
                              refine ov_putf (x := (h148 2 (h148 1 7))) d_26_315 fl_Tape_40 (zb_1 I185) (zs_1 I185) rfl (nk_4 (by omega)) rfl ?_
                              have I191 := up_1_5 (x := (h148 2 (h148 1 7))) I185 (by omega) (hw 1 (by decide +kernel))
                              refine ov_blk (ls2 := [(0, ov_r 1)]) (st2 := [ov_r 1]) (pc2 := 319) b_26_318_1 rfl rfl ?_
                              refine ov_ldcT d_26_319 rfl U.2.2 ?_
                              refine ov_blk (ls2 := [(0, ov_r 1)]) (st2 := [ov_r 1, ov_r (-3), ov_r 1]) (pc2 := 322) b_26_321_1 rfl rfl ?_
                              refine ov_getf (v := ov_i (h148 2 (h148 1 7))) d_26_322 fl_Tape_40 (zb_1 I191) (zs_1 I191) rfl ?_
                              refine ov_cVS (as := [ov_i (h148 2 (h148 1 7))]) (st := [ov_r 1]) (d2 := d - 1) d_26_325 lk_Tape_46 rfl (Nat.le_of_ble_eq_true rfl) U.2.2 rfl (by omega) (c_String_indexOf_II_m3 (d - 1) (by omega) U I191 (h148 2 (h148 1 7)) (by omega)) ?_
                              rintro _ _ _ ⟨v193, rfl, rfl, rfl, f192⟩
                              show ov_R u d ov_m26 328 [(0, ov_r 1)] [ov_i v193, ov_r 1] z147 (ov_up (ov_up h148 1 2 0) 1 5 (h148 2 (h148 1 7))) (P_Tape_advance_1 F z h)
                              have f194 : -1 ≤ v193 ∧ v193 ≤ 8 := f192
                              clear f192
                              refine ov_iflt (tgt := 335) d_26_328 (by decide) (by omega) (fun c195 => ?_) (fun c195 => ?_)
                              · skip
                                refine ov_blk (ls2 := [(0, ov_r 1)]) (st2 := [ov_i 1, ov_r 1]) (pc2 := 336) b_26_335_1 rfl rfl ?_
                                refine ov_putf (x := 1) d_26_336 fl_Tape_34 (zb_1 I191) (zs_1 I191) rfl nk_0 rfl ?_
                                have I196 := up_1_2 (x := 1) I191 (by omega) (hw 1 (by decide +kernel))
                                refine ov_blk (ls2 := [(0, ov_r 1)]) (st2 := [ov_r 1, ov_r 1]) (pc2 := 341) b_26_339_2 rfl rfl ?_
                                refine ov_getf (v := ov_i (h148 1 7)) d_26_341 fl_Tape_21 (zb_1 I196) (zs_1 I196) rfl ?_
                                refine ov_blk (ls2 := [(0, ov_r 1)]) (st2 := [ov_i ((h148 1 7) + 1), ov_r 1]) (pc2 := 346) b_26_344_2 rfl rfl ?_
                                refine ov_putf (x := ((h148 1 7) + 1)) d_26_346 fl_Tape_21 (zb_1 I196) (zs_1 I196) rfl nk_0 rfl ?_
                                have I198 := up_1_7 (x := ((h148 1 7) + 1)) I196 (by omega) (hw 1 (by decide +kernel))
                                exact ov_retv (st := []) d_26_349 rfl ⟨rfl, I198, (by show (h148 3 3) = (h 3 3) ∧ (h148 36 7) = (h 36 7) ∧ (h148 1 1) = (h 1 1) ∧ (h148 90 2) = (h 90 2) ∧ (h148 0 10) = (h 0 10) ∧ (h148 0 11) = (h 0 11) ∧ (h148 0 12) = (h 0 12) ∧ (h148 0 13) = (h 0 13) ∧ (h148 3 1) = (h 3 1) ∧ (h148 36 8) = (h 36 8) ∧ (h148 46 3) = (h 46 3) ∧ (h148 46 4) = (h 46 4) ∧ (h148 49 4) = (h 49 4) ∧ (h148 49 5) = (h 49 5) ∧ (h148 64 0) = (h 64 0) ∧ (h148 76 0) = (h 76 0); omega)⟩
                              · skip
                                refine ov_blk (ls2 := [(0, ov_r 1)]) (st2 := [ov_i 4, ov_r 1]) (pc2 := 332) b_26_331_1 rfl rfl ?_
                                refine ov_goto (tgt := 336) d_26_332 (by decide) ?_
                                refine ov_putf (x := 4) d_26_336 fl_Tape_34 (zb_1 I191) (zs_1 I191) rfl nk_0 rfl ?_
                                have I199 := up_1_2 (x := 4) I191 (by omega) (hw 1 (by decide +kernel))
                                refine ov_blk (ls2 := [(0, ov_r 1)]) (st2 := [ov_r 1, ov_r 1]) (pc2 := 341) b_26_339_2 rfl rfl ?_
                                refine ov_getf (v := ov_i (h148 1 7)) d_26_341 fl_Tape_21 (zb_1 I199) (zs_1 I199) rfl ?_
                                refine ov_blk (ls2 := [(0, ov_r 1)]) (st2 := [ov_i ((h148 1 7) + 1), ov_r 1]) (pc2 := 346) b_26_344_2 rfl rfl ?_
                                refine ov_putf (x := ((h148 1 7) + 1)) d_26_346 fl_Tape_21 (zb_1 I199) (zs_1 I199) rfl nk_0 rfl ?_
                                have I201 := up_1_7 (x := ((h148 1 7) + 1)) I199 (by omega) (hw 1 (by decide +kernel))
                                exact ov_retv (st := []) d_26_349 rfl ⟨rfl, I201, (by show (h148 3 3) = (h 3 3) ∧ (h148 36 7) = (h 36 7) ∧ (h148 1 1) = (h 1 1) ∧ (h148 90 2) = (h 90 2) ∧ (h148 0 10) = (h 0 10) ∧ (h148 0 11) = (h 0 11) ∧ (h148 0 12) = (h 0 12) ∧ (h148 0 13) = (h 0 13) ∧ (h148 3 1) = (h 3 1) ∧ (h148 36 8) = (h 36 8) ∧ (h148 46 3) = (h 46 3) ∧ (h148 46 4) = (h 46 4) ∧ (h148 49 4) = (h 49 4) ∧ (h148 49 5) = (h 49 5) ∧ (h148 64 0) = (h 64 0) ∧ (h148 76 0) = (h 76 0); omega)⟩
                          · skip
                            refine ov_blk (ls2 := [(0, ov_r 1)]) (st2 := [ov_r 1, ov_r 1]) (pc2 := 268) b_26_266_2 rfl rfl ?_
                            refine ov_getf (v := ov_i (h148 1 7)) d_26_268 fl_Tape_21 (zb_1 I149) (zs_1 I149) rfl ?_
                            refine ov_blk (ls2 := [(0, ov_r 1)]) (st2 := [ov_r 1, ov_i (h148 1 7), ov_r 1]) (pc2 := 272) b_26_271_1 rfl rfl ?_
                            refine ov_getf (v := ov_i (h148 1 3)) d_26_272 fl_Tape_27 (zb_1 I149) (zs_1 I149) rfl ?_
                            refine ov_blk (ls2 := [(0, ov_r 1)]) (st2 := [ov_i 4, ov_i ((h148 1 7) - (h148 1 3)), ov_r 1]) (pc2 := 277) b_26_275_2 rfl rfl ?_
                            refine ov_icle (tgt := 284) d_26_277 (by decide) (by omega) (by omega) (fun c204 => ?_) (fun c204 => ?_)
                            · skip
                              refine ov_blk (ls2 := [(0, ov_r 1)]) (st2 := [ov_i 3, ov_r 1]) (pc2 := 285) b_26_284_1 rfl rfl ?_
                              refine ov_putf (x := 3) d_26_285 fl_Tape_34 (zb_1 I149) (zs_1 I149) rfl nk_0 rfl ?_
                              have I205 := up_1_2 (x := 3) I149 (by omega) (hw 1 (by decide +kernel))
                              exact ov_retv (st := []) d_26_288 rfl ⟨rfl, I205, (by show (h148 3 3) = (h 3 3) ∧ (h148 36 7) = (h 36 7) ∧ (h148 1 1) = (h 1 1) ∧ (h148 90 2) = (h 90 2) ∧ (h148 0 10) = (h 0 10) ∧ (h148 0 11) = (h 0 11) ∧ (h148 0 12) = (h 0 12) ∧ (h148 0 13) = (h 0 13) ∧ (h148 3 1) = (h 3 1) ∧ (h148 36 8) = (h 36 8) ∧ (h148 46 3) = (h 46 3) ∧ (h148 46 4) = (h 46 4) ∧ (h148 49 4) = (h 49 4) ∧ (h148 49 5) = (h 49 5) ∧ (h148 64 0) = (h 64 0) ∧ (h148 76 0) = (h 76 0); omega)⟩
                            · skip
                              refine ov_blk (ls2 := [(0, ov_r 1)]) (st2 := [ov_i 1, ov_r 1]) (pc2 := 281) b_26_280_1 rfl rfl ?_
                              refine ov_goto (tgt := 285) d_26_281 (by decide) ?_
                              refine ov_putf (x := 1) d_26_285 fl_Tape_34 (zb_1 I149) (zs_1 I149) rfl nk_0 rfl ?_
                              have I206 := up_1_2 (x := 1) I149 (by omega) (hw 1 (by decide +kernel))
                              exact ov_retv (st := []) d_26_288 rfl ⟨rfl, I206, (by show (h148 3 3) = (h 3 3) ∧ (h148 36 7) = (h 36 7) ∧ (h148 1 1) = (h 1 1) ∧ (h148 90 2) = (h 90 2) ∧ (h148 0 10) = (h 0 10) ∧ (h148 0 11) = (h 0 11) ∧ (h148 0 12) = (h 0 12) ∧ (h148 0 13) = (h 0 13) ∧ (h148 3 1) = (h 3 1) ∧ (h148 36 8) = (h 36 8) ∧ (h148 46 3) = (h 46 3) ∧ (h148 46 4) = (h 46 4) ∧ (h148 49 4) = (h 49 4) ∧ (h148 49 5) = (h 49 5) ∧ (h148 64 0) = (h 64 0) ∧ (h148 76 0) = (h 76 0); omega)⟩
                        · skip
                          refine ov_blk (ls2 := [(0, ov_r 1)]) (st2 := [ov_r 1]) (pc2 := 205) b_26_204_1 rfl rfl ?_
                          refine ov_getf (v := ov_r 2) d_26_205 fl_Tape_9 (zb_1 I149) (zs_1 I149) (congrArg ov_r (rg_1_0 I149)) ?_
                          refine ov_blk (ls2 := [(0, ov_r 1)]) (st2 := [ov_r 1, ov_r 2]) (pc2 := 209) b_26_208_1 rfl rfl ?_
                          refine ov_getf (v := ov_i (h148 1 7)) d_26_209 fl_Tape_21 (zb_1 I149) (zs_1 I149) rfl ?_
                          refine ov_cald d_26_212 (zb_2 I149) (zs_2 I149) (by omega) ?_
                          refine ov_blk (ls2 := [(0, ov_r 1)]) (st2 := [ov_i 57, ov_i (h148 2 (h148 1 7))]) (pc2 := 215) b_26_213_1 rfl rfl ?_
                          refine ov_icgt (tgt := 255) d_26_215 (by decide) (by omega) (by omega) (fun c209 => ?_) (fun c209 => ?_)
                          · skip
                            refine ov_blk (ls2 := [(0, ov_r 1)]) (st2 := [ov_r 1]) (pc2 := 256) b_26_255_1 rfl rfl ?_
                            refine ov_getf (v := ov_i (h148 1 7)) d_26_256 fl_Tape_21 (zb_1 I149) (zs_1 I149) rfl ?_
                            refine ov_blk (ls2 := [(0, ov_r 1)]) (st2 := [ov_r 1, ov_i (h148 1 7)]) (pc2 := 260) b_26_259_1 rfl rfl ?_
                            refine ov_getf (v := ov_i (h148 1 3)) d_26_260 fl_Tape_27 (zb_1 I149) (zs_1 I149) rfl ?_
                            have g211 := rg_1_3 I149
                            refine ov_icle (tgt := 289) d_26_263 (by decide) (by omega) (by omega) (fun c212 => ?_) (fun c212 => ?_)
                            · skip
                              refine ov_blk (ls2 := [(0, ov_r 1)]) (st2 := [ov_i 0, ov_r 1]) (pc2 := 291) b_26_289_2 rfl rfl ?_
                              refine ov_putf (x := 0) d_26_291 fl_Tape_34 (zb_1 I149) (zs_1 I149) rfl nk_0 rfl ?_
                              have I213 := up_1_2 (x := 0) I149 (by omega) (hw 1 (by decide +kernel))
                              refine ov_blk (ls2 := [(0, ov_r 1)]) (st2 := [ov_r 1]) (pc2 := 295) b_26_294_1 rfl rfl ?_
                              refine ov_getf (v := ov_i (h148 1 7)) d_26_295 fl_Tape_21 (zb_1 I213) (zs_1 I213) rfl ?_
                              refine ov_blk (ls2 := [(0, ov_r 1)]) (st2 := [ov_r 1, ov_i (h148 1 7)]) (pc2 := 299) b_26_298_1 rfl rfl ?_
                              refine ov_getf (v := ov_i (h148 1 1)) d_26_299 fl_Tape_17 (zb_1 I213) (zs_1 I213) rfl ?_
                              refine ov_icge (tgt := 349) d_26_302 (by decide) (by omega) (by omega) (fun c216 => ?_) (fun c216 => ?_)
                              · skip
                                exact ov_retv (st := []) d_26_349 rfl ⟨rfl, I213, (by show (h148 3 3) = (h 3 3) ∧ (h148 36 7) = (h 36 7) ∧ (h148 1 1) = (h 1 1) ∧ (h148 90 2) = (h 90 2) ∧ (h148 0 10) = (h 0 10) ∧ (h148 0 11) = (h 0 11) ∧ (h148 0 12) = (h 0 12) ∧ (h148 0 13) = (h 0 13) ∧ (h148 3 1) = (h 3 1) ∧ (h148 36 8) = (h 36 8) ∧ (h148 46 3) = (h 46 3) ∧ (h148 46 4) = (h 46 4) ∧ (h148 49 4) = (h 49 4) ∧ (h148 49 5) = (h 49 5) ∧ (h148 64 0) = (h 64 0) ∧ (h148 76 0) = (h 76 0); omega)⟩
                              · skip
                                refine ov_blk (ls2 := [(0, ov_r 1)]) (st2 := [ov_r 1, ov_r 1]) (pc2 := 307) b_26_305_2 rfl rfl ?_
                                refine ov_getf (v := ov_r 2) d_26_307 fl_Tape_9 (zb_1 I213) (zs_1 I213) (congrArg ov_r (rg_1_0 I213)) ?_
                                refine ov_blk (ls2 := [(0, ov_r 1)]) (st2 := [ov_r 1, ov_r 2, ov_r 1]) (pc2 := 311) b_26_310_1 rfl rfl ?_
                                refine ov_getf (v := ov_i (h148 1 7)) d_26_311 fl_Tape_21 (zb_1 I213) (zs_1 I213) rfl ?_
                                refine ov_cald d_26_314 (zb_2 I213) (zs_2 I213) (by omega) ?_
                                show ov_R u d ov_m26 315 [(0, ov_r 1)] [ov_i (h148 2 (h148 1 7)), ov_r 1] z147 (ov_up h148 1 2 0) (P_Tape_advance_1 F z h)
                                refine ov_putf (x := (h148 2 (h148 1 7))) d_26_315 fl_Tape_40 (zb_1 I213) (zs_1 I213) rfl (nk_4 (by omega)) rfl ?_
                                have I219 := up_1_5 (x := (h148 2 (h148 1 7))) I213 (by omega) (hw 1 (by decide +kernel))
                                refine ov_blk (ls2 := [(0, ov_r 1)]) (st2 := [ov_r 1]) (pc2 := 319) b_26_318_1 rfl rfl ?_
                                refine ov_ldcT d_26_319 rfl U.2.2 ?_
                                refine ov_blk (ls2 := [(0, ov_r 1)]) (st2 := [ov_r 1, ov_r (-3), ov_r 1]) (pc2 := 322) b_26_321_1 rfl rfl ?_
                                refine ov_getf (v := ov_i (h148 2 (h148 1 7))) d_26_322 fl_Tape_40 (zb_1 I219) (zs_1 I219) rfl ?_
                                refine ov_cVS (as := [ov_i (h148 2 (h148 1 7))]) (st := [ov_r 1]) (d2 := d - 1) d_26_325 lk_Tape_46 rfl (Nat.le_of_ble_eq_true rfl) U.2.2 rfl (by omega) (c_String_indexOf_II_m3 (d - 1) (by omega) U I219 (h148 2 (h148 1 7)) (by omega)) ?_
                                rintro _ _ _ ⟨v221, rfl, rfl, rfl, f220⟩
                                show ov_R u d ov_m26 328 [(0, ov_r 1)] [ov_i v221, ov_r 1] z147 (ov_up (ov_up h148 1 2 0) 1 5 (h148 2 (h148 1 7))) (P_Tape_advance_1 F z h)
                                have f222 : -1 ≤ v221 ∧ v221 ≤ 8 := f220
                                clear f220
                                refine ov_iflt (tgt := 335) d_26_328 (by decide) (by omega) (fun c223 => ?_) (fun c223 => ?_)
                                · skip
                                  refine ov_blk (ls2 := [(0, ov_r 1)]) (st2 := [ov_i 1, ov_r 1]) (pc2 := 336) b_26_335_1 rfl rfl ?_
                                  refine ov_putf (x := 1) d_26_336 fl_Tape_34 (zb_1 I219) (zs_1 I219) rfl nk_0 rfl ?_
                                  have I224 := up_1_2 (x := 1) I219 (by omega) (hw 1 (by decide +kernel))
                                  refine ov_blk (ls2 := [(0, ov_r 1)]) (st2 := [ov_r 1, ov_r 1]) (pc2 := 341) b_26_339_2 rfl rfl ?_
                                  refine ov_getf (v := ov_i (h148 1 7)) d_26_341 fl_Tape_21 (zb_1 I224) (zs_1 I224) rfl ?_
                                  refine ov_blk (ls2 := [(0, ov_r 1)]) (st2 := [ov_i ((h148 1 7) + 1), ov_r 1]) (pc2 := 346) b_26_344_2 rfl rfl ?_
                                  refine ov_putf (x := ((h148 1 7) + 1)) d_26_346 fl_Tape_21 (zb_1 I224) (zs_1 I224) rfl nk_0 rfl ?_
                                  have I226 := up_1_7 (x := ((h148 1 7) + 1)) I224 (by omega) (hw 1 (by decide +kernel))
                                  exact ov_retv (st := []) d_26_349 rfl ⟨rfl, I226, (by show (h148 3 3) = (h 3 3) ∧ (h148 36 7) = (h 36 7) ∧ (h148 1 1) = (h 1 1) ∧ (h148 90 2) = (h 90 2) ∧ (h148 0 10) = (h 0 10) ∧ (h148 0 11) = (h 0 11) ∧ (h148 0 12) = (h 0 12) ∧ (h148 0 13) = (h 0 13) ∧ (h148 3 1) = (h 3 1) ∧ (h148 36 8) = (h 36 8) ∧ (h148 46 3) = (h 46 3) ∧ (h148 46 4) = (h 46 4) ∧ (h148 49 4) = (h 49 4) ∧ (h148 49 5) = (h 49 5) ∧ (h148 64 0) = (h 64 0) ∧ (h148 76 0) = (h 76 0); omega)⟩
                                · skip
                                  refine ov_blk (ls2 := [(0, ov_r 1)]) (st2 := [ov_i 4, ov_r 1]) (pc2 := 332) b_26_331_1 rfl rfl ?_
                                  refine ov_goto (tgt := 336) d_26_332 (by decide) ?_
                                  refine ov_putf (x := 4) d_26_336 fl_Tape_34 (zb_1 I219) (zs_1 I219) rfl nk_0 rfl ?_
                                  have I227 := up_1_2 (x := 4) I219 (by omega) (hw 1 (by decide +kernel))
                                  refine ov_blk (ls2 := [(0, ov_r 1)]) (st2 := [ov_r 1, ov_r 1]) (pc2 := 341) b_26_339_2 rfl rfl ?_
                                  refine ov_getf (v := ov_i (h148 1 7)) d_26_341 fl_Tape_21 (zb_1 I227) (zs_1 I227) rfl ?_
                                  refine ov_blk (ls2 := [(0, ov_r 1)]) (st2 := [ov_i ((h148 1 7) + 1), ov_r 1]) (pc2 := 346) b_26_344_2 rfl rfl ?_
                                  refine ov_putf (x := ((h148 1 7) + 1)) d_26_346 fl_Tape_21 (zb_1 I227) (zs_1 I227) rfl nk_0 rfl ?_
                                  have I229 := up_1_7 (x := ((h148 1 7) + 1)) I227 (by omega) (hw 1 (by decide +kernel))
                                  exact ov_retv (st := []) d_26_349 rfl ⟨rfl, I229, (by show (h148 3 3) = (h 3 3) ∧ (h148 36 7) = (h 36 7) ∧ (h148 1 1) = (h 1 1) ∧ (h148 90 2) = (h 90 2) ∧ (h148 0 10) = (h 0 10) ∧ (h148 0 11) = (h 0 11) ∧ (h148 0 12) = (h 0 12) ∧ (h148 0 13) = (h 0 13) ∧ (h148 3 1) = (h 3 1) ∧ (h148 36 8) = (h 36 8) ∧ (h148 46 3) = (h 46 3) ∧ (h148 46 4) = (h 46 4) ∧ (h148 49 4) = (h 49 4) ∧ (h148 49 5) = (h 49 5) ∧ (h148 64 0) = (h 64 0) ∧ (h148 76 0) = (h 76 0); omega)⟩
                            · skip
                              refine ov_blk (ls2 := [(0, ov_r 1)]) (st2 := [ov_r 1, ov_r 1]) (pc2 := 268) b_26_266_2 rfl rfl ?_
                              refine ov_getf (v := ov_i (h148 1 7)) d_26_268 fl_Tape_21 (zb_1 I149) (zs_1 I149) rfl ?_
                              refine ov_blk (ls2 := [(0, ov_r 1)]) (st2 := [ov_r 1, ov_i (h148 1 7), ov_r 1]) (pc2 := 272) b_26_271_1 rfl rfl ?_
                              refine ov_getf (v := ov_i (h148 1 3)) d_26_272 fl_Tape_27 (zb_1 I149) (zs_1 I149) rfl ?_
                              refine ov_blk (ls2 := [(0, ov_r 1)]) (st2 := [ov_i 4, ov_i ((h148 1 7) - (h148 1 3)), ov_r 1]) (pc2 := 277) b_26_275_2 rfl rfl ?_
                              refine ov_icle (tgt := 284) d_26_277 (by decide) (by omega) (by omega) (fun c232 => ?_) (fun c232 => ?_)
                              · skip
                                refine ov_blk (ls2 := [(0, ov_r 1)]) (st2 := [ov_i 3, ov_r 1]) (pc2 := 285) b_26_284_1 rfl rfl ?_
                                refine ov_putf (x := 3) d_26_285 fl_Tape_34 (zb_1 I149) (zs_1 I149) rfl nk_0 rfl ?_
                                have I233 := up_1_2 (x := 3) I149 (by omega) (hw 1 (by decide +kernel))
                                exact ov_retv (st := []) d_26_288 rfl ⟨rfl, I233, (by show (h148 3 3) = (h 3 3) ∧ (h148 36 7) = (h 36 7) ∧ (h148 1 1) = (h 1 1) ∧ (h148 90 2) = (h 90 2) ∧ (h148 0 10) = (h 0 10) ∧ (h148 0 11) = (h 0 11) ∧ (h148 0 12) = (h 0 12) ∧ (h148 0 13) = (h 0 13) ∧ (h148 3 1) = (h 3 1) ∧ (h148 36 8) = (h 36 8) ∧ (h148 46 3) = (h 46 3) ∧ (h148 46 4) = (h 46 4) ∧ (h148 49 4) = (h 49 4) ∧ (h148 49 5) = (h 49 5) ∧ (h148 64 0) = (h 64 0) ∧ (h148 76 0) = (h 76 0); omega)⟩
                              · skip
                                refine ov_blk (ls2 := [(0, ov_r 1)]) (st2 := [ov_i 1, ov_r 1]) (pc2 := 281) b_26_280_1 rfl rfl ?_
                                refine ov_goto (tgt := 285) d_26_281 (by decide) ?_
                                refine ov_putf (x := 1) d_26_285 fl_Tape_34 (zb_1 I149) (zs_1 I149) rfl nk_0 rfl ?_
                                have I234 := up_1_2 (x := 1) I149 (by omega) (hw 1 (by decide +kernel))
                                exact ov_retv (st := []) d_26_288 rfl ⟨rfl, I234, (by show (h148 3 3) = (h 3 3) ∧ (h148 36 7) = (h 36 7) ∧ (h148 1 1) = (h 1 1) ∧ (h148 90 2) = (h 90 2) ∧ (h148 0 10) = (h 0 10) ∧ (h148 0 11) = (h 0 11) ∧ (h148 0 12) = (h 0 12) ∧ (h148 0 13) = (h 0 13) ∧ (h148 3 1) = (h 3 1) ∧ (h148 36 8) = (h 36 8) ∧ (h148 46 3) = (h 46 3) ∧ (h148 46 4) = (h 46 4) ∧ (h148 49 4) = (h 49 4) ∧ (h148 49 5) = (h 49 5) ∧ (h148 64 0) = (h 64 0) ∧ (h148 76 0) = (h 76 0); omega)⟩
                          · skip
                            refine ov_blk (ls2 := [(0, ov_r 1)]) (st2 := [ov_r 1, ov_r 1]) (pc2 := 220) b_26_218_2 rfl rfl ?_
                            refine ov_getf (v := ov_i (h148 1 4)) d_26_220 fl_Tape_37 (zb_1 I149) (zs_1 I149) rfl ?_
                            have g235 := rg_1_4 I149
                            refine ov_blk (ls2 := [(0, ov_r 1)]) (st2 := [ov_i ((h148 1 4) * 10), ov_r 1]) (pc2 := 226) b_26_223_2 rfl rfl ?_
                            refine ov_hav (fun w236 gw236 => ?_)
                            refine ov_blk (ls2 := [(0, ov_r 1)]) (st2 := [ov_r 1, ov_i w236, ov_r 1]) (pc2 := 227) b_26_226_1 rfl rfl ?_
                            refine ov_getf (v := ov_r 2) d_26_227 fl_Tape_9 (zb_1 I149) (zs_1 I149) (congrArg ov_r (rg_1_0 I149)) ?_
                            refine ov_blk (ls2 := [(0, ov_r 1)]) (st2 := [ov_r 1, ov_r 2, ov_i w236, ov_r 1]) (pc2 := 231) b_26_230_1 rfl rfl ?_
                            refine ov_getf (v := ov_i (h148 1 7)) d_26_231 fl_Tape_21 (zb_1 I149) (zs_1 I149) rfl ?_
                            refine ov_cald d_26_234 (zb_2 I149) (zs_2 I149) (by omega) ?_
                            refine ov_blk (ls2 := [(0, ov_r 1)]) (st2 := [ov_i (w236 + (h148 2 (h148 1 7))), ov_r 1]) (pc2 := 236) b_26_235_1 rfl rfl ?_
                            refine ov_hav (fun w239 gw239 => ?_)
                            refine ov_blk (ls2 := [(0, ov_r 1)]) (st2 := [ov_i (w239 - 48), ov_r 1]) (pc2 := 239) b_26_236_2 rfl rfl ?_
                            refine ov_hav (fun w240 gw240 => ?_)
                            refine ov_putf (x := w240) d_26_239 fl_Tape_37 (zb_1 I149) (zs_1 I149) rfl nk_0 rfl ?_
                            have I241 := up_1_4 (x := w240) I149 (by omega) (hw 1 (by decide +kernel))
                            refine ov_blk (ls2 := [(0, ov_r 1)]) (st2 := [ov_r 1, ov_r 1]) (pc2 := 244) b_26_242_2 rfl rfl ?_
                            refine ov_getf (v := ov_i (h148 1 7)) d_26_244 fl_Tape_21 (zb_1 I241) (zs_1 I241) rfl ?_
                            refine ov_blk (ls2 := [(0, ov_r 1)]) (st2 := [ov_i ((h148 1 7) + 1), ov_r 1]) (pc2 := 249) b_26_247_2 rfl rfl ?_
                            refine ov_putf (x := ((h148 1 7) + 1)) d_26_249 fl_Tape_21 (zb_1 I241) (zs_1 I241) rfl nk_0 rfl ?_
                            have I243 := up_1_7 (x := ((h148 1 7) + 1)) I241 (by omega) (hw 1 (by decide +kernel))
                            refine ov_goto (tgt := 179) d_26_252 (by decide) ?_
                            exact ih144  _ _ I243 (by show (h148 3 3) = (h 3 3) ∧ 0 ≤ ((h148 1 7) + 1) ∧ ((h148 1 7) + 1) ≤ 1000 ∧ (h148 36 7) = (h 36 7) ∧ (h148 1 1) = (h 1 1) ∧ (h148 90 2) = (h 90 2) ∧ (h148 0 10) = (h 0 10) ∧ (h148 0 11) = (h 0 11) ∧ (h148 0 12) = (h 0 12) ∧ (h148 0 13) = (h 0 13) ∧ (h148 3 1) = (h 3 1) ∧ (h148 36 8) = (h 36 8) ∧ (h148 46 3) = (h 46 3) ∧ (h148 46 4) = (h 46 4) ∧ (h148 49 4) = (h 49 4) ∧ (h148 49 5) = (h 49 5) ∧ (h148 64 0) = (h 64 0) ∧ (h148 76 0) = (h 76 0); omega) (by show 1000 - ((h148 1 7) + 1) < _; omega)
                  exact L146 1001  _ _ I142 (by show (h20 3 3) = (h 3 3) ∧ 0 ≤ (h20 1 7) ∧ (h20 1 7) ≤ 1000 ∧ (h20 36 7) = (h 36 7) ∧ (h20 1 1) = (h 1 1) ∧ (h20 90 2) = (h 90 2) ∧ (h20 0 10) = (h 0 10) ∧ (h20 0 11) = (h 0 11) ∧ (h20 0 12) = (h 0 12) ∧ (h20 0 13) = (h 0 13) ∧ (h20 3 1) = (h 3 1) ∧ (h20 36 8) = (h 36 8) ∧ (h20 46 3) = (h 46 3) ∧ (h20 46 4) = (h 46 4) ∧ (h20 49 4) = (h 49 4) ∧ (h20 49 5) = (h 49 5) ∧ (h20 64 0) = (h 64 0) ∧ (h20 76 0) = (h 76 0); omega) (by show 1000 - (h20 1 7) < _; omega)
                · skip
                  refine ov_blk (ls2 := [(0, ov_r 1)]) (st2 := [ov_r 1, ov_r 1]) (pc2 := 152) b_26_150_2 rfl rfl ?_
                  refine ov_getf (v := ov_i (h20 1 7)) d_26_152 fl_Tape_21 (zb_1 I21) (zs_1 I21) rfl ?_
                  refine ov_blk (ls2 := [(0, ov_r 1)]) (st2 := [ov_r 1, ov_i (h20 1 7), ov_r 1]) (pc2 := 156) b_26_155_1 rfl rfl ?_
                  refine ov_getf (v := ov_i (h20 1 3)) d_26_156 fl_Tape_27 (zb_1 I21) (zs_1 I21) rfl ?_
                  refine ov_blk (ls2 := [(0, ov_r 1)]) (st2 := [ov_i 8, ov_i ((h20 1 7) - (h20 1 3)), ov_r 1]) (pc2 := 162) b_26_159_2 rfl rfl ?_
                  refine ov_icle (tgt := 169) d_26_162 (by decide) (by omega) (by omega) (fun c246 => ?_) (fun c246 => ?_)
                  · skip
                    refine ov_blk (ls2 := [(0, ov_r 1)]) (st2 := [ov_i 2, ov_r 1]) (pc2 := 170) b_26_169_1 rfl rfl ?_
                    refine ov_putf (x := 2) d_26_170 fl_Tape_34 (zb_1 I21) (zs_1 I21) rfl nk_0 rfl ?_
                    have I247 := up_1_2 (x := 2) I21 (by omega) (hw 1 (by decide +kernel))
                    exact ov_retv (st := []) d_26_173 rfl ⟨rfl, I247, (by show (h20 3 3) = (h 3 3) ∧ (h20 36 7) = (h 36 7) ∧ (h20 1 1) = (h 1 1) ∧ (h20 90 2) = (h 90 2) ∧ (h20 0 10) = (h 0 10) ∧ (h20 0 11) = (h 0 11) ∧ (h20 0 12) = (h 0 12) ∧ (h20 0 13) = (h 0 13) ∧ (h20 3 1) = (h 3 1) ∧ (h20 36 8) = (h 36 8) ∧ (h20 46 3) = (h 46 3) ∧ (h20 46 4) = (h 46 4) ∧ (h20 49 4) = (h 49 4) ∧ (h20 49 5) = (h 49 5) ∧ (h20 64 0) = (h 64 0) ∧ (h20 76 0) = (h 76 0); omega)⟩
                  · skip
                    refine ov_blk (ls2 := [(0, ov_r 1)]) (st2 := [ov_i 1, ov_r 1]) (pc2 := 166) b_26_165_1 rfl rfl ?_
                    refine ov_goto (tgt := 170) d_26_166 (by decide) ?_
                    refine ov_putf (x := 1) d_26_170 fl_Tape_34 (zb_1 I21) (zs_1 I21) rfl nk_0 rfl ?_
                    have I248 := up_1_2 (x := 1) I21 (by omega) (hw 1 (by decide +kernel))
                    exact ov_retv (st := []) d_26_173 rfl ⟨rfl, I248, (by show (h20 3 3) = (h 3 3) ∧ (h20 36 7) = (h 36 7) ∧ (h20 1 1) = (h 1 1) ∧ (h20 90 2) = (h 90 2) ∧ (h20 0 10) = (h 0 10) ∧ (h20 0 11) = (h 0 11) ∧ (h20 0 12) = (h 0 12) ∧ (h20 0 13) = (h 0 13) ∧ (h20 3 1) = (h 3 1) ∧ (h20 36 8) = (h 36 8) ∧ (h20 46 3) = (h 46 3) ∧ (h20 46 4) = (h 46 4) ∧ (h20 49 4) = (h 49 4) ∧ (h20 49 5) = (h 49 5) ∧ (h20 64 0) = (h 64 0) ∧ (h20 76 0) = (h 76 0); omega)⟩
              · skip
                refine ov_blk (ls2 := [(0, ov_r 1)]) (st2 := [ov_r 1]) (pc2 := 91) b_26_90_1 rfl rfl ?_
                refine ov_getf (v := ov_r 2) d_26_91 fl_Tape_9 (zb_1 I21) (zs_1 I21) (congrArg ov_r (rg_1_0 I21)) ?_
                refine ov_blk (ls2 := [(0, ov_r 1)]) (st2 := [ov_r 1, ov_r 2]) (pc2 := 95) b_26_94_1 rfl rfl ?_
                refine ov_getf (v := ov_i (h20 1 7)) d_26_95 fl_Tape_21 (zb_1 I21) (zs_1 I21) rfl ?_
                refine ov_cald d_26_98 (zb_2 I21) (zs_2 I21) (by omega) ?_
                refine ov_blk (ls2 := [(0, ov_r 1)]) (st2 := [ov_i 122, ov_i (h20 2 (h20 1 7))]) (pc2 := 101) b_26_99_1 rfl rfl ?_
                refine ov_icgt (tgt := 139) d_26_101 (by decide) (by omega) (by omega) (fun c251 => ?_) (fun c251 => ?_)
                · skip
                  refine ov_blk (ls2 := [(0, ov_r 1)]) (st2 := [ov_r 1]) (pc2 := 140) b_26_139_1 rfl rfl ?_
                  refine ov_getf (v := ov_i (h20 1 7)) d_26_140 fl_Tape_21 (zb_1 I21) (zs_1 I21) rfl ?_
                  refine ov_blk (ls2 := [(0, ov_r 1)]) (st2 := [ov_r 1, ov_i (h20 1 7)]) (pc2 := 144) b_26_143_1 rfl rfl ?_
                  refine ov_getf (v := ov_i (h20 1 3)) d_26_144 fl_Tape_27 (zb_1 I21) (zs_1 I21) rfl ?_
                  have g253 := rg_1_3 I21
                  refine ov_icle (tgt := 174) d_26_147 (by decide) (by omega) (by omega) (fun c254 => ?_) (fun c254 => ?_)
                  · skip
                    refine ov_blk (ls2 := [(0, ov_r 1)]) (st2 := [ov_i 0, ov_r 1]) (pc2 := 176) b_26_174_2 rfl rfl ?_
                    refine ov_putf (x := 0) d_26_176 fl_Tape_37 (zb_1 I21) (zs_1 I21) rfl nk_0 rfl ?_
                    have I255 := up_1_4 (x := 0) I21 (by omega) (hw 1 (by decide +kernel))
                    have L259 : ∀ (n256 : Nat) (z260 : ov_Z) (h261 : ov_H) (I262 : ov_I F z260 h261) (q258 : (h261 3 3) = (h 3 3) ∧ 0 ≤ (h261 1 7) ∧ (h261 1 7) ≤ 1000 ∧ (h261 36 7) = (h 36 7) ∧ (h261 1 1) = (h 1 1) ∧ (h261 90 2) = (h 90 2) ∧ (h261 0 10) = (h 0 10) ∧ (h261 0 11) = (h 0 11) ∧ (h261 0 12) = (h 0 12) ∧ (h261 0 13) = (h 0 13) ∧ (h261 3 1) = (h 3 1) ∧ (h261 36 8) = (h 36 8) ∧ (h261 46 3) = (h 46 3) ∧ (h261 46 4) = (h 46 4) ∧ (h261 49 4) = (h 49 4) ∧ (h261 49 5) = (h 49 5) ∧ (h261 64 0) = (h 64 0) ∧ (h261 76 0) = (h 76 0)), 1000 - (h261 1 7) < (n256 : Int) → ov_R u d ov_m26 179 [(0, ov_r 1)] [] z260 h261 (P_Tape_advance_1 F z h) := by
                      intro n256
                      induction n256 with
                      | zero =>
                        intro  z260 h261 I262 q258 hn263
                        exact absurd hn263 (by omega)
                      | succ n256 ih257 =>
                        intro  z260 h261 I262 q258 hn263
                        refine ov_blk (ls2 := [(0, ov_r 1)]) (st2 := [ov_r 1]) (pc2 := 180) b_26_179_1 rfl rfl ?_
                        refine ov_getf (v := ov_i (h261 1 7)) d_26_180 fl_Tape_21 (zb_1 I262) (zs_1 I262) rfl ?_
                        have g264 := rg_1_7 I262
                        refine ov_blk (ls2 := [(0, ov_r 1)]) (st2 := [ov_r 1, ov_i (h261 1 7)]) (pc2 := 184) b_26_183_1 rfl rfl ?_
                        refine ov_getf (v := ov_i (h261 1 1)) d_26_184 fl_Tape_17 (zb_1 I262) (zs_1 I262) rfl ?_
                        have g265 := rg_1_1 I262
                        refine ov_icge (tgt := 255) d_26_187 (by decide) (by omega) (by omega) (fun c266 => ?_) (fun c266 => ?_)
                        · skip
                          refine ov_blk (ls2 := [(0, ov_r 1)]) (st2 := [ov_r 1]) (pc2 := 256) b_26_255_1 rfl rfl ?_
                          refine ov_getf (v := ov_i (h261 1 7)) d_26_256 fl_Tape_21 (zb_1 I262) (zs_1 I262) rfl ?_
                          refine ov_blk (ls2 := [(0, ov_r 1)]) (st2 := [ov_r 1, ov_i (h261 1 7)]) (pc2 := 260) b_26_259_1 rfl rfl ?_
                          refine ov_getf (v := ov_i (h261 1 3)) d_26_260 fl_Tape_27 (zb_1 I262) (zs_1 I262) rfl ?_
                          have g268 := rg_1_3 I262
                          refine ov_icle (tgt := 289) d_26_263 (by decide) (by omega) (by omega) (fun c269 => ?_) (fun c269 => ?_)
                          · skip
                            refine ov_blk (ls2 := [(0, ov_r 1)]) (st2 := [ov_i 0, ov_r 1]) (pc2 := 291) b_26_289_2 rfl rfl ?_
                            refine ov_putf (x := 0) d_26_291 fl_Tape_34 (zb_1 I262) (zs_1 I262) rfl nk_0 rfl ?_
                            have I270 := up_1_2 (x := 0) I262 (by omega) (hw 1 (by decide +kernel))
                            refine ov_blk (ls2 := [(0, ov_r 1)]) (st2 := [ov_r 1]) (pc2 := 295) b_26_294_1 rfl rfl ?_
                            refine ov_getf (v := ov_i (h261 1 7)) d_26_295 fl_Tape_21 (zb_1 I270) (zs_1 I270) rfl ?_
                            refine ov_blk (ls2 := [(0, ov_r 1)]) (st2 := [ov_r 1, ov_i (h261 1 7)]) (pc2 := 299) b_26_298_1 rfl rfl ?_
                            refine ov_getf (v := ov_i (h261 1 1)) d_26_299 fl_Tape_17 (zb_1 I270) (zs_1 I270) rfl ?_
                            refine ov_icge (tgt := 349) d_26_302 (by decide) (by omega) (by omega) (fun c273 => ?_) (fun c273 => ?_)
                            · skip
                              exact ov_retv (st := []) d_26_349 rfl ⟨rfl, I270, (by show (h261 3 3) = (h 3 3) ∧ (h261 36 7) = (h 36 7) ∧ (h261 1 1) = (h 1 1) ∧ (h261 90 2) = (h 90 2) ∧ (h261 0 10) = (h 0 10) ∧ (h261 0 11) = (h 0 11) ∧ (h261 0 12) = (h 0 12) ∧ (h261 0 13) = (h 0 13) ∧ (h261 3 1) = (h 3 1) ∧ (h261 36 8) = (h 36 8) ∧ (h261 46 3) = (h 46 3) ∧ (h261 46 4) = (h 46 4) ∧ (h261 49 4) = (h 49 4) ∧ (h261 49 5) = (h 49 5) ∧ (h261 64 0) = (h 64 0) ∧ (h261 76 0) = (h 76 0); omega)⟩
                            · skip
                              refine ov_blk (ls2 := [(0, ov_r 1)]) (st2 := [ov_r 1, ov_r 1]) (pc2 := 307) b_26_305_2 rfl rfl ?_
                              refine ov_getf (v := ov_r 2) d_26_307 fl_Tape_9 (zb_1 I270) (zs_1 I270) (congrArg ov_r (rg_1_0 I270)) ?_
                              refine ov_blk (ls2 := [(0, ov_r 1)]) (st2 := [ov_r 1, ov_r 2, ov_r 1]) (pc2 := 311) b_26_310_1 rfl rfl ?_
                              refine ov_getf (v := ov_i (h261 1 7)) d_26_311 fl_Tape_21 (zb_1 I270) (zs_1 I270) rfl ?_
                              refine ov_cald d_26_314 (zb_2 I270) (zs_2 I270) (by omega) ?_
                              show ov_R u d ov_m26 315 [(0, ov_r 1)] [ov_i (h261 2 (h261 1 7)), ov_r 1] z260 (ov_up h261 1 2 0) (P_Tape_advance_1 F z h)
                              have g275 := ra_2 I262 (h261 1 7)
                              refine ov_putf (x := (h261 2 (h261 1 7))) d_26_315 fl_Tape_40 (zb_1 I270) (zs_1 I270) rfl (nk_4 (by omega)) rfl ?_
                              have I276 := up_1_5 (x := (h261 2 (h261 1 7))) I270 (by omega) (hw 1 (by decide +kernel))
                              refine ov_blk (ls2 := [(0, ov_r 1)]) (st2 := [ov_r 1]) (pc2 := 319) b_26_318_1 rfl rfl ?_
                              refine ov_ldcT d_26_319 rfl U.2.2 ?_
                              refine ov_blk (ls2 := [(0, ov_r 1)]) (st2 := [ov_r 1, ov_r (-3), ov_r 1]) (pc2 := 322) b_26_321_1 rfl rfl ?_
                              refine ov_getf (v := ov_i (h261 2 (h261 1 7))) d_26_322 fl_Tape_40 (zb_1 I276) (zs_1 I276) rfl ?_
                              refine ov_cVS (as := [ov_i (h261 2 (h261 1 7))]) (st := [ov_r 1]) (d2 := d - 1) d_26_325 lk_Tape_46 rfl (Nat.le_of_ble_eq_true rfl) U.2.2 rfl (by omega) (c_String_indexOf_II_m3 (d - 1) (by omega) U I276 (h261 2 (h261 1 7)) (by omega)) ?_
                              rintro _ _ _ ⟨v278, rfl, rfl, rfl, f277⟩
                              show ov_R u d ov_m26 328 [(0, ov_r 1)] [ov_i v278, ov_r 1] z260 (ov_up (ov_up h261 1 2 0) 1 5 (h261 2 (h261 1 7))) (P_Tape_advance_1 F z h)
                              have f279 : -1 ≤ v278 ∧ v278 ≤ 8 := f277
                              clear f277
                              refine ov_iflt (tgt := 335) d_26_328 (by decide) (by omega) (fun c280 => ?_) (fun c280 => ?_)
                              · skip
                                refine ov_blk (ls2 := [(0, ov_r 1)]) (st2 := [ov_i 1, ov_r 1]) (pc2 := 336) b_26_335_1 rfl rfl ?_
                                refine ov_putf (x := 1) d_26_336 fl_Tape_34 (zb_1 I276) (zs_1 I276) rfl nk_0 rfl ?_
                                have I281 := up_1_2 (x := 1) I276 (by omega) (hw 1 (by decide +kernel))
                                refine ov_blk (ls2 := [(0, ov_r 1)]) (st2 := [ov_r 1, ov_r 1]) (pc2 := 341) b_26_339_2 rfl rfl ?_
                                refine ov_getf (v := ov_i (h261 1 7)) d_26_341 fl_Tape_21 (zb_1 I281) (zs_1 I281) rfl ?_
                                refine ov_blk (ls2 := [(0, ov_r 1)]) (st2 := [ov_i ((h261 1 7) + 1), ov_r 1]) (pc2 := 346) b_26_344_2 rfl rfl ?_
                                refine ov_putf (x := ((h261 1 7) + 1)) d_26_346 fl_Tape_21 (zb_1 I281) (zs_1 I281) rfl nk_0 rfl ?_
                                have I283 := up_1_7 (x := ((h261 1 7) + 1)) I281 (by omega) (hw 1 (by decide +kernel))
                                exact ov_retv (st := []) d_26_349 rfl ⟨rfl, I283, (by show (h261 3 3) = (h 3 3) ∧ (h261 36 7) = (h 36 7) ∧ (h261 1 1) = (h 1 1) ∧ (h261 90 2) = (h 90 2) ∧ (h261 0 10) = (h 0 10) ∧ (h261 0 11) = (h 0 11) ∧ (h261 0 12) = (h 0 12) ∧ (h261 0 13) = (h 0 13) ∧ (h261 3 1) = (h 3 1) ∧ (h261 36 8) = (h 36 8) ∧ (h261 46 3) = (h 46 3) ∧ (h261 46 4) = (h 46 4) ∧ (h261 49 4) = (h 49 4) ∧ (h261 49 5) = (h 49 5) ∧ (h261 64 0) = (h 64 0) ∧ (h261 76 0) = (h 76 0); omega)⟩
                              · skip
                                refine ov_blk (ls2 := [(0, ov_r 1)]) (st2 := [ov_i 4, ov_r 1]) (pc2 := 332) b_26_331_1 rfl rfl ?_
                                refine ov_goto (tgt := 336) d_26_332 (by decide) ?_
                                refine ov_putf (x := 4) d_26_336 fl_Tape_34 (zb_1 I276) (zs_1 I276) rfl nk_0 rfl ?_
                                have I284 := up_1_2 (x := 4) I276 (by omega) (hw 1 (by decide +kernel))
                                refine ov_blk (ls2 := [(0, ov_r 1)]) (st2 := [ov_r 1, ov_r 1]) (pc2 := 341) b_26_339_2 rfl rfl ?_
                                refine ov_getf (v := ov_i (h261 1 7)) d_26_341 fl_Tape_21 (zb_1 I284) (zs_1 I284) rfl ?_
                                refine ov_blk (ls2 := [(0, ov_r 1)]) (st2 := [ov_i ((h261 1 7) + 1), ov_r 1]) (pc2 := 346) b_26_344_2 rfl rfl ?_
                                refine ov_putf (x := ((h261 1 7) + 1)) d_26_346 fl_Tape_21 (zb_1 I284) (zs_1 I284) rfl nk_0 rfl ?_
                                have I286 := up_1_7 (x := ((h261 1 7) + 1)) I284 (by omega) (hw 1 (by decide +kernel))
                                exact ov_retv (st := []) d_26_349 rfl ⟨rfl, I286, (by show (h261 3 3) = (h 3 3) ∧ (h261 36 7) = (h 36 7) ∧ (h261 1 1) = (h 1 1) ∧ (h261 90 2) = (h 90 2) ∧ (h261 0 10) = (h 0 10) ∧ (h261 0 11) = (h 0 11) ∧ (h261 0 12) = (h 0 12) ∧ (h261 0 13) = (h 0 13) ∧ (h261 3 1) = (h 3 1) ∧ (h261 36 8) = (h 36 8) ∧ (h261 46 3) = (h 46 3) ∧ (h261 46 4) = (h 46 4) ∧ (h261 49 4) = (h 49 4) ∧ (h261 49 5) = (h 49 5) ∧ (h261 64 0) = (h 64 0) ∧ (h261 76 0) = (h 76 0); omega)⟩
                          · skip
                            refine ov_blk (ls2 := [(0, ov_r 1)]) (st2 := [ov_r 1, ov_r 1]) (pc2 := 268) b_26_266_2 rfl rfl ?_
                            refine ov_getf (v := ov_i (h261 1 7)) d_26_268 fl_Tape_21 (zb_1 I262) (zs_1 I262) rfl ?_
                            refine ov_blk (ls2 := [(0, ov_r 1)]) (st2 := [ov_r 1, ov_i (h261 1 7), ov_r 1]) (pc2 := 272) b_26_271_1 rfl rfl ?_
                            refine ov_getf (v := ov_i (h261 1 3)) d_26_272 fl_Tape_27 (zb_1 I262) (zs_1 I262) rfl ?_
                            refine ov_blk (ls2 := [(0, ov_r 1)]) (st2 := [ov_i 4, ov_i ((h261 1 7) - (h261 1 3)), ov_r 1]) (pc2 := 277) b_26_275_2 rfl rfl ?_
                            refine ov_icle (tgt := 284) d_26_277 (by decide) (by omega) (by omega) (fun c289 => ?_) (fun c289 => ?_)
                            · skip
                              refine ov_blk (ls2 := [(0, ov_r 1)]) (st2 := [ov_i 3, ov_r 1]) (pc2 := 285) b_26_284_1 rfl rfl ?_
                              refine ov_putf (x := 3) d_26_285 fl_Tape_34 (zb_1 I262) (zs_1 I262) rfl nk_0 rfl ?_
                              have I290 := up_1_2 (x := 3) I262 (by omega) (hw 1 (by decide +kernel))
                              exact ov_retv (st := []) d_26_288 rfl ⟨rfl, I290, (by show (h261 3 3) = (h 3 3) ∧ (h261 36 7) = (h 36 7) ∧ (h261 1 1) = (h 1 1) ∧ (h261 90 2) = (h 90 2) ∧ (h261 0 10) = (h 0 10) ∧ (h261 0 11) = (h 0 11) ∧ (h261 0 12) = (h 0 12) ∧ (h261 0 13) = (h 0 13) ∧ (h261 3 1) = (h 3 1) ∧ (h261 36 8) = (h 36 8) ∧ (h261 46 3) = (h 46 3) ∧ (h261 46 4) = (h 46 4) ∧ (h261 49 4) = (h 49 4) ∧ (h261 49 5) = (h 49 5) ∧ (h261 64 0) = (h 64 0) ∧ (h261 76 0) = (h 76 0); omega)⟩
                            · skip
                              refine ov_blk (ls2 := [(0, ov_r 1)]) (st2 := [ov_i 1, ov_r 1]) (pc2 := 281) b_26_280_1 rfl rfl ?_
                              refine ov_goto (tgt := 285) d_26_281 (by decide) ?_
                              refine ov_putf (x := 1) d_26_285 fl_Tape_34 (zb_1 I262) (zs_1 I262) rfl nk_0 rfl ?_
                              have I291 := up_1_2 (x := 1) I262 (by omega) (hw 1 (by decide +kernel))
                              exact ov_retv (st := []) d_26_288 rfl ⟨rfl, I291, (by show (h261 3 3) = (h 3 3) ∧ (h261 36 7) = (h 36 7) ∧ (h261 1 1) = (h 1 1) ∧ (h261 90 2) = (h 90 2) ∧ (h261 0 10) = (h 0 10) ∧ (h261 0 11) = (h 0 11) ∧ (h261 0 12) = (h 0 12) ∧ (h261 0 13) = (h 0 13) ∧ (h261 3 1) = (h 3 1) ∧ (h261 36 8) = (h 36 8) ∧ (h261 46 3) = (h 46 3) ∧ (h261 46 4) = (h 46 4) ∧ (h261 49 4) = (h 49 4) ∧ (h261 49 5) = (h 49 5) ∧ (h261 64 0) = (h 64 0) ∧ (h261 76 0) = (h 76 0); omega)⟩
                        · skip
                          refine ov_blk (ls2 := [(0, ov_r 1)]) (st2 := [ov_r 1]) (pc2 := 191) b_26_190_1 rfl rfl ?_
                          refine ov_getf (v := ov_r 2) d_26_191 fl_Tape_9 (zb_1 I262) (zs_1 I262) (congrArg ov_r (rg_1_0 I262)) ?_
                          refine ov_blk (ls2 := [(0, ov_r 1)]) (st2 := [ov_r 1, ov_r 2]) (pc2 := 195) b_26_194_1 rfl rfl ?_
                          refine ov_getf (v := ov_i (h261 1 7)) d_26_195 fl_Tape_21 (zb_1 I262) (zs_1 I262) rfl ?_
                          refine ov_cald d_26_198 (zb_2 I262) (zs_2 I262) (by omega) ?_
                          have g293 := ra_2 I262 (h261 1 7)
                          refine ov_blk (ls2 := [(0, ov_r 1)]) (st2 := [ov_i 48, ov_i (h261 2 (h261 1 7))]) (pc2 := 201) b_26_199_1 rfl rfl ?_
                          refine ov_iclt (tgt := 255) d_26_201 (by decide) (by omega) (by omega) (fun c294 => ?_) (fun c294 => ?_)
                          · skip
                            refine ov_blk (ls2 := [(0, ov_r 1)]) (st2 := [ov_r 1]) (pc2 := 256) b_26_255_1 rfl rfl ?_
                            refine ov_getf (v := ov_i (h261 1 7)) d_26_256 fl_Tape_21 (zb_1 I262) (zs_1 I262) rfl ?_
                            refine ov_blk (ls2 := [(0, ov_r 1)]) (st2 := [ov_r 1, ov_i (h261 1 7)]) (pc2 := 260) b_26_259_1 rfl rfl ?_
                            refine ov_getf (v := ov_i (h261 1 3)) d_26_260 fl_Tape_27 (zb_1 I262) (zs_1 I262) rfl ?_
                            have g296 := rg_1_3 I262
                            refine ov_icle (tgt := 289) d_26_263 (by decide) (by omega) (by omega) (fun c297 => ?_) (fun c297 => ?_)
                            · skip
                              refine ov_blk (ls2 := [(0, ov_r 1)]) (st2 := [ov_i 0, ov_r 1]) (pc2 := 291) b_26_289_2 rfl rfl ?_
                              refine ov_putf (x := 0) d_26_291 fl_Tape_34 (zb_1 I262) (zs_1 I262) rfl nk_0 rfl ?_
                              have I298 := up_1_2 (x := 0) I262 (by omega) (hw 1 (by decide +kernel))
                              refine ov_blk (ls2 := [(0, ov_r 1)]) (st2 := [ov_r 1]) (pc2 := 295) b_26_294_1 rfl rfl ?_
                              refine ov_getf (v := ov_i (h261 1 7)) d_26_295 fl_Tape_21 (zb_1 I298) (zs_1 I298) rfl ?_
                              refine ov_blk (ls2 := [(0, ov_r 1)]) (st2 := [ov_r 1, ov_i (h261 1 7)]) (pc2 := 299) b_26_298_1 rfl rfl ?_
                              refine ov_getf (v := ov_i (h261 1 1)) d_26_299 fl_Tape_17 (zb_1 I298) (zs_1 I298) rfl ?_
                              refine ov_icge (tgt := 349) d_26_302 (by decide) (by omega) (by omega) (fun c301 => ?_) (fun c301 => ?_)
                              · skip
                                exact ov_retv (st := []) d_26_349 rfl ⟨rfl, I298, (by show (h261 3 3) = (h 3 3) ∧ (h261 36 7) = (h 36 7) ∧ (h261 1 1) = (h 1 1) ∧ (h261 90 2) = (h 90 2) ∧ (h261 0 10) = (h 0 10) ∧ (h261 0 11) = (h 0 11) ∧ (h261 0 12) = (h 0 12) ∧ (h261 0 13) = (h 0 13) ∧ (h261 3 1) = (h 3 1) ∧ (h261 36 8) = (h 36 8) ∧ (h261 46 3) = (h 46 3) ∧ (h261 46 4) = (h 46 4) ∧ (h261 49 4) = (h 49 4) ∧ (h261 49 5) = (h 49 5) ∧ (h261 64 0) = (h 64 0) ∧ (h261 76 0) = (h 76 0); omega)⟩
                              · skip
                                refine ov_blk (ls2 := [(0, ov_r 1)]) (st2 := [ov_r 1, ov_r 1]) (pc2 := 307) b_26_305_2 rfl rfl ?_
                                refine ov_getf (v := ov_r 2) d_26_307 fl_Tape_9 (zb_1 I298) (zs_1 I298) (congrArg ov_r (rg_1_0 I298)) ?_
                                refine ov_blk (ls2 := [(0, ov_r 1)]) (st2 := [ov_r 1, ov_r 2, ov_r 1]) (pc2 := 311) b_26_310_1 rfl rfl ?_
                                refine ov_getf (v := ov_i (h261 1 7)) d_26_311 fl_Tape_21 (zb_1 I298) (zs_1 I298) rfl ?_
                                refine ov_cald d_26_314 (zb_2 I298) (zs_2 I298) (by omega) ?_
                                show ov_R u d ov_m26 315 [(0, ov_r 1)] [ov_i (h261 2 (h261 1 7)), ov_r 1] z260 (ov_up h261 1 2 0) (P_Tape_advance_1 F z h)
                                refine ov_putf (x := (h261 2 (h261 1 7))) d_26_315 fl_Tape_40 (zb_1 I298) (zs_1 I298) rfl (nk_4 (by omega)) rfl ?_
                                have I304 := up_1_5 (x := (h261 2 (h261 1 7))) I298 (by omega) (hw 1 (by decide +kernel))
                                refine ov_blk (ls2 := [(0, ov_r 1)]) (st2 := [ov_r 1]) (pc2 := 319) b_26_318_1 rfl rfl ?_
                                refine ov_ldcT d_26_319 rfl U.2.2 ?_
                                refine ov_blk (ls2 := [(0, ov_r 1)]) (st2 := [ov_r 1, ov_r (-3), ov_r 1]) (pc2 := 322) b_26_321_1 rfl rfl ?_
                                refine ov_getf (v := ov_i (h261 2 (h261 1 7))) d_26_322 fl_Tape_40 (zb_1 I304) (zs_1 I304) rfl ?_
                                refine ov_cVS (as := [ov_i (h261 2 (h261 1 7))]) (st := [ov_r 1]) (d2 := d - 1) d_26_325 lk_Tape_46 rfl (Nat.le_of_ble_eq_true rfl) U.2.2 rfl (by omega) (c_String_indexOf_II_m3 (d - 1) (by omega) U I304 (h261 2 (h261 1 7)) (by omega)) ?_
                                rintro _ _ _ ⟨v306, rfl, rfl, rfl, f305⟩
                                show ov_R u d ov_m26 328 [(0, ov_r 1)] [ov_i v306, ov_r 1] z260 (ov_up (ov_up h261 1 2 0) 1 5 (h261 2 (h261 1 7))) (P_Tape_advance_1 F z h)
                                have f307 : -1 ≤ v306 ∧ v306 ≤ 8 := f305
                                clear f305
                                refine ov_iflt (tgt := 335) d_26_328 (by decide) (by omega) (fun c308 => ?_) (fun c308 => ?_)
                                · skip
                                  refine ov_blk (ls2 := [(0, ov_r 1)]) (st2 := [ov_i 1, ov_r 1]) (pc2 := 336) b_26_335_1 rfl rfl ?_
                                  refine ov_putf (x := 1) d_26_336 fl_Tape_34 (zb_1 I304) (zs_1 I304) rfl nk_0 rfl ?_
                                  have I309 := up_1_2 (x := 1) I304 (by omega) (hw 1 (by decide +kernel))
                                  refine ov_blk (ls2 := [(0, ov_r 1)]) (st2 := [ov_r 1, ov_r 1]) (pc2 := 341) b_26_339_2 rfl rfl ?_
                                  refine ov_getf (v := ov_i (h261 1 7)) d_26_341 fl_Tape_21 (zb_1 I309) (zs_1 I309) rfl ?_
                                  refine ov_blk (ls2 := [(0, ov_r 1)]) (st2 := [ov_i ((h261 1 7) + 1), ov_r 1]) (pc2 := 346) b_26_344_2 rfl rfl ?_
                                  refine ov_putf (x := ((h261 1 7) + 1)) d_26_346 fl_Tape_21 (zb_1 I309) (zs_1 I309) rfl nk_0 rfl ?_
                                  have I311 := up_1_7 (x := ((h261 1 7) + 1)) I309 (by omega) (hw 1 (by decide +kernel))
                                  exact ov_retv (st := []) d_26_349 rfl ⟨rfl, I311, (by show (h261 3 3) = (h 3 3) ∧ (h261 36 7) = (h 36 7) ∧ (h261 1 1) = (h 1 1) ∧ (h261 90 2) = (h 90 2) ∧ (h261 0 10) = (h 0 10) ∧ (h261 0 11) = (h 0 11) ∧ (h261 0 12) = (h 0 12) ∧ (h261 0 13) = (h 0 13) ∧ (h261 3 1) = (h 3 1) ∧ (h261 36 8) = (h 36 8) ∧ (h261 46 3) = (h 46 3) ∧ (h261 46 4) = (h 46 4) ∧ (h261 49 4) = (h 49 4) ∧ (h261 49 5) = (h 49 5) ∧ (h261 64 0) = (h 64 0) ∧ (h261 76 0) = (h 76 0); omega)⟩
                                · skip
                                  refine ov_blk (ls2 := [(0, ov_r 1)]) (st2 := [ov_i 4, ov_r 1]) (pc2 := 332) b_26_331_1 rfl rfl ?_
                                  refine ov_goto (tgt := 336) d_26_332 (by decide) ?_
                                  refine ov_putf (x := 4) d_26_336 fl_Tape_34 (zb_1 I304) (zs_1 I304) rfl nk_0 rfl ?_
                                  have I312 := up_1_2 (x := 4) I304 (by omega) (hw 1 (by decide +kernel))
                                  refine ov_blk (ls2 := [(0, ov_r 1)]) (st2 := [ov_r 1, ov_r 1]) (pc2 := 341) b_26_339_2 rfl rfl ?_
                                  refine ov_getf (v := ov_i (h261 1 7)) d_26_341 fl_Tape_21 (zb_1 I312) (zs_1 I312) rfl ?_
                                  refine ov_blk (ls2 := [(0, ov_r 1)]) (st2 := [ov_i ((h261 1 7) + 1), ov_r 1]) (pc2 := 346) b_26_344_2 rfl rfl ?_
                                  refine ov_putf (x := ((h261 1 7) + 1)) d_26_346 fl_Tape_21 (zb_1 I312) (zs_1 I312) rfl nk_0 rfl ?_
                                  have I314 := up_1_7 (x := ((h261 1 7) + 1)) I312 (by omega) (hw 1 (by decide +kernel))
                                  exact ov_retv (st := []) d_26_349 rfl ⟨rfl, I314, (by show (h261 3 3) = (h 3 3) ∧ (h261 36 7) = (h 36 7) ∧ (h261 1 1) = (h 1 1) ∧ (h261 90 2) = (h 90 2) ∧ (h261 0 10) = (h 0 10) ∧ (h261 0 11) = (h 0 11) ∧ (h261 0 12) = (h 0 12) ∧ (h261 0 13) = (h 0 13) ∧ (h261 3 1) = (h 3 1) ∧ (h261 36 8) = (h 36 8) ∧ (h261 46 3) = (h 46 3) ∧ (h261 46 4) = (h 46 4) ∧ (h261 49 4) = (h 49 4) ∧ (h261 49 5) = (h 49 5) ∧ (h261 64 0) = (h 64 0) ∧ (h261 76 0) = (h 76 0); omega)⟩
                            · skip
                              refine ov_blk (ls2 := [(0, ov_r 1)]) (st2 := [ov_r 1, ov_r 1]) (pc2 := 268) b_26_266_2 rfl rfl ?_
                              refine ov_getf (v := ov_i (h261 1 7)) d_26_268 fl_Tape_21 (zb_1 I262) (zs_1 I262) rfl ?_
                              refine ov_blk (ls2 := [(0, ov_r 1)]) (st2 := [ov_r 1, ov_i (h261 1 7), ov_r 1]) (pc2 := 272) b_26_271_1 rfl rfl ?_
                              refine ov_getf (v := ov_i (h261 1 3)) d_26_272 fl_Tape_27 (zb_1 I262) (zs_1 I262) rfl ?_
                              refine ov_blk (ls2 := [(0, ov_r 1)]) (st2 := [ov_i 4, ov_i ((h261 1 7) - (h261 1 3)), ov_r 1]) (pc2 := 277) b_26_275_2 rfl rfl ?_
                              refine ov_icle (tgt := 284) d_26_277 (by decide) (by omega) (by omega) (fun c317 => ?_) (fun c317 => ?_)
                              · skip
                                refine ov_blk (ls2 := [(0, ov_r 1)]) (st2 := [ov_i 3, ov_r 1]) (pc2 := 285) b_26_284_1 rfl rfl ?_
                                refine ov_putf (x := 3) d_26_285 fl_Tape_34 (zb_1 I262) (zs_1 I262) rfl nk_0 rfl ?_
                                have I318 := up_1_2 (x := 3) I262 (by omega) (hw 1 (by decide +kernel))
                                exact ov_retv (st := []) d_26_288 rfl ⟨rfl, I318, (by show (h261 3 3) = (h 3 3) ∧ (h261 36 7) = (h 36 7) ∧ (h261 1 1) = (h 1 1) ∧ (h261 90 2) = (h 90 2) ∧ (h261 0 10) = (h 0 10) ∧ (h261 0 11) = (h 0 11) ∧ (h261 0 12) = (h 0 12) ∧ (h261 0 13) = (h 0 13) ∧ (h261 3 1) = (h 3 1) ∧ (h261 36 8) = (h 36 8) ∧ (h261 46 3) = (h 46 3) ∧ (h261 46 4) = (h 46 4) ∧ (h261 49 4) = (h 49 4) ∧ (h261 49 5) = (h 49 5) ∧ (h261 64 0) = (h 64 0) ∧ (h261 76 0) = (h 76 0); omega)⟩
                              · skip
                                refine ov_blk (ls2 := [(0, ov_r 1)]) (st2 := [ov_i 1, ov_r 1]) (pc2 := 281) b_26_280_1 rfl rfl ?_
                                refine ov_goto (tgt := 285) d_26_281 (by decide) ?_
                                refine ov_putf (x := 1) d_26_285 fl_Tape_34 (zb_1 I262) (zs_1 I262) rfl nk_0 rfl ?_
                                have I319 := up_1_2 (x := 1) I262 (by omega) (hw 1 (by decide +kernel))
                                exact ov_retv (st := []) d_26_288 rfl ⟨rfl, I319, (by show (h261 3 3) = (h 3 3) ∧ (h261 36 7) = (h 36 7) ∧ (h261 1 1) = (h 1 1) ∧ (h261 90 2) = (h 90 2) ∧ (h261 0 10) = (h 0 10) ∧ (h261 0 11) = (h 0 11) ∧ (h261 0 12) = (h 0 12) ∧ (h261 0 13) = (h 0 13) ∧ (h261 3 1) = (h 3 1) ∧ (h261 36 8) = (h 36 8) ∧ (h261 46 3) = (h 46 3) ∧ (h261 46 4) = (h 46 4) ∧ (h261 49 4) = (h 49 4) ∧ (h261 49 5) = (h 49 5) ∧ (h261 64 0) = (h 64 0) ∧ (h261 76 0) = (h 76 0); omega)⟩
                          · skip
                            refine ov_blk (ls2 := [(0, ov_r 1)]) (st2 := [ov_r 1]) (pc2 := 205) b_26_204_1 rfl rfl ?_
                            refine ov_getf (v := ov_r 2) d_26_205 fl_Tape_9 (zb_1 I262) (zs_1 I262) (congrArg ov_r (rg_1_0 I262)) ?_
                            refine ov_blk (ls2 := [(0, ov_r 1)]) (st2 := [ov_r 1, ov_r 2]) (pc2 := 209) b_26_208_1 rfl rfl ?_
                            refine ov_getf (v := ov_i (h261 1 7)) d_26_209 fl_Tape_21 (zb_1 I262) (zs_1 I262) rfl ?_
                            refine ov_cald d_26_212 (zb_2 I262) (zs_2 I262) (by omega) ?_
                            refine ov_blk (ls2 := [(0, ov_r 1)]) (st2 := [ov_i 57, ov_i (h261 2 (h261 1 7))]) (pc2 := 215) b_26_213_1 rfl rfl ?_
                            refine ov_icgt (tgt := 255) d_26_215 (by decide) (by omega) (by omega) (fun c322 => ?_) (fun c322 => ?_)
                            · skip
                              refine ov_blk (ls2 := [(0, ov_r 1)]) (st2 := [ov_r 1]) (pc2 := 256) b_26_255_1 rfl rfl ?_
                              refine ov_getf (v := ov_i (h261 1 7)) d_26_256 fl_Tape_21 (zb_1 I262) (zs_1 I262) rfl ?_
                              refine ov_blk (ls2 := [(0, ov_r 1)]) (st2 := [ov_r 1, ov_i (h261 1 7)]) (pc2 := 260) b_26_259_1 rfl rfl ?_
                              refine ov_getf (v := ov_i (h261 1 3)) d_26_260 fl_Tape_27 (zb_1 I262) (zs_1 I262) rfl ?_
                              have g324 := rg_1_3 I262
                              refine ov_icle (tgt := 289) d_26_263 (by decide) (by omega) (by omega) (fun c325 => ?_) (fun c325 => ?_)
                              · skip
                                refine ov_blk (ls2 := [(0, ov_r 1)]) (st2 := [ov_i 0, ov_r 1]) (pc2 := 291) b_26_289_2 rfl rfl ?_
                                refine ov_putf (x := 0) d_26_291 fl_Tape_34 (zb_1 I262) (zs_1 I262) rfl nk_0 rfl ?_
                                have I326 := up_1_2 (x := 0) I262 (by omega) (hw 1 (by decide +kernel))
                                refine ov_blk (ls2 := [(0, ov_r 1)]) (st2 := [ov_r 1]) (pc2 := 295) b_26_294_1 rfl rfl ?_
                                refine ov_getf (v := ov_i (h261 1 7)) d_26_295 fl_Tape_21 (zb_1 I326) (zs_1 I326) rfl ?_
                                refine ov_blk (ls2 := [(0, ov_r 1)]) (st2 := [ov_r 1, ov_i (h261 1 7)]) (pc2 := 299) b_26_298_1 rfl rfl ?_
                                refine ov_getf (v := ov_i (h261 1 1)) d_26_299 fl_Tape_17 (zb_1 I326) (zs_1 I326) rfl ?_
                                refine ov_icge (tgt := 349) d_26_302 (by decide) (by omega) (by omega) (fun c329 => ?_) (fun c329 => ?_)
                                · skip
                                  exact ov_retv (st := []) d_26_349 rfl ⟨rfl, I326, (by show (h261 3 3) = (h 3 3) ∧ (h261 36 7) = (h 36 7) ∧ (h261 1 1) = (h 1 1) ∧ (h261 90 2) = (h 90 2) ∧ (h261 0 10) = (h 0 10) ∧ (h261 0 11) = (h 0 11) ∧ (h261 0 12) = (h 0 12) ∧ (h261 0 13) = (h 0 13) ∧ (h261 3 1) = (h 3 1) ∧ (h261 36 8) = (h 36 8) ∧ (h261 46 3) = (h 46 3) ∧ (h261 46 4) = (h 46 4) ∧ (h261 49 4) = (h 49 4) ∧ (h261 49 5) = (h 49 5) ∧ (h261 64 0) = (h 64 0) ∧ (h261 76 0) = (h 76 0); omega)⟩
                                · skip
                                  refine ov_blk (ls2 := [(0, ov_r 1)]) (st2 := [ov_r 1, ov_r 1]) (pc2 := 307) b_26_305_2 rfl rfl ?_
                                  refine ov_getf (v := ov_r 2) d_26_307 fl_Tape_9 (zb_1 I326) (zs_1 I326) (congrArg ov_r (rg_1_0 I326)) ?_
                                  refine ov_blk (ls2 := [(0, ov_r 1)]) (st2 := [ov_r 1, ov_r 2, ov_r 1]) (pc2 := 311) b_26_310_1 rfl rfl ?_
                                  refine ov_getf (v := ov_i (h261 1 7)) d_26_311 fl_Tape_21 (zb_1 I326) (zs_1 I326) rfl ?_
                                  refine ov_cald d_26_314 (zb_2 I326) (zs_2 I326) (by omega) ?_
                                  show ov_R u d ov_m26 315 [(0, ov_r 1)] [ov_i (h261 2 (h261 1 7)), ov_r 1] z260 (ov_up h261 1 2 0) (P_Tape_advance_1 F z h)
                                  refine ov_putf (x := (h261 2 (h261 1 7))) d_26_315 fl_Tape_40 (zb_1 I326) (zs_1 I326) rfl (nk_4 (by omega)) rfl ?_
                                  have I332 := up_1_5 (x := (h261 2 (h261 1 7))) I326 (by omega) (hw 1 (by decide +kernel))
                                  refine ov_blk (ls2 := [(0, ov_r 1)]) (st2 := [ov_r 1]) (pc2 := 319) b_26_318_1 rfl rfl ?_
                                  refine ov_ldcT d_26_319 rfl U.2.2 ?_
                                  refine ov_blk (ls2 := [(0, ov_r 1)]) (st2 := [ov_r 1, ov_r (-3), ov_r 1]) (pc2 := 322) b_26_321_1 rfl rfl ?_
                                  refine ov_getf (v := ov_i (h261 2 (h261 1 7))) d_26_322 fl_Tape_40 (zb_1 I332) (zs_1 I332) rfl ?_
                                  refine ov_cVS (as := [ov_i (h261 2 (h261 1 7))]) (st := [ov_r 1]) (d2 := d - 1) d_26_325 lk_Tape_46 rfl (Nat.le_of_ble_eq_true rfl) U.2.2 rfl (by omega) (c_String_indexOf_II_m3 (d - 1) (by omega) U I332 (h261 2 (h261 1 7)) (by omega)) ?_
                                  rintro _ _ _ ⟨v334, rfl, rfl, rfl, f333⟩
                                  show ov_R u d ov_m26 328 [(0, ov_r 1)] [ov_i v334, ov_r 1] z260 (ov_up (ov_up h261 1 2 0) 1 5 (h261 2 (h261 1 7))) (P_Tape_advance_1 F z h)
                                  have f335 : -1 ≤ v334 ∧ v334 ≤ 8 := f333
                                  clear f333
                                  refine ov_iflt (tgt := 335) d_26_328 (by decide) (by omega) (fun c336 => ?_) (fun c336 => ?_)
                                  · skip
                                    refine ov_blk (ls2 := [(0, ov_r 1)]) (st2 := [ov_i 1, ov_r 1]) (pc2 := 336) b_26_335_1 rfl rfl ?_
                                    refine ov_putf (x := 1) d_26_336 fl_Tape_34 (zb_1 I332) (zs_1 I332) rfl nk_0 rfl ?_
                                    have I337 := up_1_2 (x := 1) I332 (by omega) (hw 1 (by decide +kernel))
                                    refine ov_blk (ls2 := [(0, ov_r 1)]) (st2 := [ov_r 1, ov_r 1]) (pc2 := 341) b_26_339_2 rfl rfl ?_
                                    refine ov_getf (v := ov_i (h261 1 7)) d_26_341 fl_Tape_21 (zb_1 I337) (zs_1 I337) rfl ?_
                                    refine ov_blk (ls2 := [(0, ov_r 1)]) (st2 := [ov_i ((h261 1 7) + 1), ov_r 1]) (pc2 := 346) b_26_344_2 rfl rfl ?_
                                    refine ov_putf (x := ((h261 1 7) + 1)) d_26_346 fl_Tape_21 (zb_1 I337) (zs_1 I337) rfl nk_0 rfl ?_
                                    have I339 := up_1_7 (x := ((h261 1 7) + 1)) I337 (by omega) (hw 1 (by decide +kernel))
                                    exact ov_retv (st := []) d_26_349 rfl ⟨rfl, I339, (by show (h261 3 3) = (h 3 3) ∧ (h261 36 7) = (h 36 7) ∧ (h261 1 1) = (h 1 1) ∧ (h261 90 2) = (h 90 2) ∧ (h261 0 10) = (h 0 10) ∧ (h261 0 11) = (h 0 11) ∧ (h261 0 12) = (h 0 12) ∧ (h261 0 13) = (h 0 13) ∧ (h261 3 1) = (h 3 1) ∧ (h261 36 8) = (h 36 8) ∧ (h261 46 3) = (h 46 3) ∧ (h261 46 4) = (h 46 4) ∧ (h261 49 4) = (h 49 4) ∧ (h261 49 5) = (h 49 5) ∧ (h261 64 0) = (h 64 0) ∧ (h261 76 0) = (h 76 0); omega)⟩
                                  · skip
                                    refine ov_blk (ls2 := [(0, ov_r 1)]) (st2 := [ov_i 4, ov_r 1]) (pc2 := 332) b_26_331_1 rfl rfl ?_
                                    refine ov_goto (tgt := 336) d_26_332 (by decide) ?_
                                    refine ov_putf (x := 4) d_26_336 fl_Tape_34 (zb_1 I332) (zs_1 I332) rfl nk_0 rfl ?_
                                    have I340 := up_1_2 (x := 4) I332 (by omega) (hw 1 (by decide +kernel))
                                    refine ov_blk (ls2 := [(0, ov_r 1)]) (st2 := [ov_r 1, ov_r 1]) (pc2 := 341) b_26_339_2 rfl rfl ?_
                                    refine ov_getf (v := ov_i (h261 1 7)) d_26_341 fl_Tape_21 (zb_1 I340) (zs_1 I340) rfl ?_
                                    refine ov_blk (ls2 := [(0, ov_r 1)]) (st2 := [ov_i ((h261 1 7) + 1), ov_r 1]) (pc2 := 346) b_26_344_2 rfl rfl ?_
                                    refine ov_putf (x := ((h261 1 7) + 1)) d_26_346 fl_Tape_21 (zb_1 I340) (zs_1 I340) rfl nk_0 rfl ?_
                                    have I342 := up_1_7 (x := ((h261 1 7) + 1)) I340 (by omega) (hw 1 (by decide +kernel))
                                    exact ov_retv (st := []) d_26_349 rfl ⟨rfl, I342, (by show (h261 3 3) = (h 3 3) ∧ (h261 36 7) = (h 36 7) ∧ (h261 1 1) = (h 1 1) ∧ (h261 90 2) = (h 90 2) ∧ (h261 0 10) = (h 0 10) ∧ (h261 0 11) = (h 0 11) ∧ (h261 0 12) = (h 0 12) ∧ (h261 0 13) = (h 0 13) ∧ (h261 3 1) = (h 3 1) ∧ (h261 36 8) = (h 36 8) ∧ (h261 46 3) = (h 46 3) ∧ (h261 46 4) = (h 46 4) ∧ (h261 49 4) = (h 49 4) ∧ (h261 49 5) = (h 49 5) ∧ (h261 64 0) = (h 64 0) ∧ (h261 76 0) = (h 76 0); omega)⟩
                              · skip
                                refine ov_blk (ls2 := [(0, ov_r 1)]) (st2 := [ov_r 1, ov_r 1]) (pc2 := 268) b_26_266_2 rfl rfl ?_
                                refine ov_getf (v := ov_i (h261 1 7)) d_26_268 fl_Tape_21 (zb_1 I262) (zs_1 I262) rfl ?_
                                refine ov_blk (ls2 := [(0, ov_r 1)]) (st2 := [ov_r 1, ov_i (h261 1 7), ov_r 1]) (pc2 := 272) b_26_271_1 rfl rfl ?_
                                refine ov_getf (v := ov_i (h261 1 3)) d_26_272 fl_Tape_27 (zb_1 I262) (zs_1 I262) rfl ?_
                                refine ov_blk (ls2 := [(0, ov_r 1)]) (st2 := [ov_i 4, ov_i ((h261 1 7) - (h261 1 3)), ov_r 1]) (pc2 := 277) b_26_275_2 rfl rfl ?_
                                refine ov_icle (tgt := 284) d_26_277 (by decide) (by omega) (by omega) (fun c345 => ?_) (fun c345 => ?_)
                                · skip
                                  refine ov_blk (ls2 := [(0, ov_r 1)]) (st2 := [ov_i 3, ov_r 1]) (pc2 := 285) b_26_284_1 rfl rfl ?_
                                  refine ov_putf (x := 3) d_26_285 fl_Tape_34 (zb_1 I262) (zs_1 I262) rfl nk_0 rfl ?_
                                  have I346 := up_1_2 (x := 3) I262 (by omega) (hw 1 (by decide +kernel))
                                  exact ov_retv (st := []) d_26_288 rfl ⟨rfl, I346, (by show (h261 3 3) = (h 3 3) ∧ (h261 36 7) = (h 36 7) ∧ (h261 1 1) = (h 1 1) ∧ (h261 90 2) = (h 90 2) ∧ (h261 0 10) = (h 0 10) ∧ (h261 0 11) = (h 0 11) ∧ (h261 0 12) = (h 0 12) ∧ (h261 0 13) = (h 0 13) ∧ (h261 3 1) = (h 3 1) ∧ (h261 36 8) = (h 36 8) ∧ (h261 46 3) = (h 46 3) ∧ (h261 46 4) = (h 46 4) ∧ (h261 49 4) = (h 49 4) ∧ (h261 49 5) = (h 49 5) ∧ (h261 64 0) = (h 64 0) ∧ (h261 76 0) = (h 76 0); omega)⟩
                                · skip
                                  refine ov_blk (ls2 := [(0, ov_r 1)]) (st2 := [ov_i 1, ov_r 1]) (pc2 := 281) b_26_280_1 rfl rfl ?_
                                  refine ov_goto (tgt := 285) d_26_281 (by decide) ?_
                                  refine ov_putf (x := 1) d_26_285 fl_Tape_34 (zb_1 I262) (zs_1 I262) rfl nk_0 rfl ?_
                                  have I347 := up_1_2 (x := 1) I262 (by omega) (hw 1 (by decide +kernel))
                                  exact ov_retv (st := []) d_26_288 rfl ⟨rfl, I347, (by show (h261 3 3) = (h 3 3) ∧ (h261 36 7) = (h 36 7) ∧ (h261 1 1) = (h 1 1) ∧ (h261 90 2) = (h 90 2) ∧ (h261 0 10) = (h 0 10) ∧ (h261 0 11) = (h 0 11) ∧ (h261 0 12) = (h 0 12) ∧ (h261 0 13) = (h 0 13) ∧ (h261 3 1) = (h 3 1) ∧ (h261 36 8) = (h 36 8) ∧ (h261 46 3) = (h 46 3) ∧ (h261 46 4) = (h 46 4) ∧ (h261 49 4) = (h 49 4) ∧ (h261 49 5) = (h 49 5) ∧ (h261 64 0) = (h 64 0) ∧ (h261 76 0) = (h 76 0); omega)⟩
                            · skip
                              refine ov_blk (ls2 := [(0, ov_r 1)]) (st2 := [ov_r 1, ov_r 1]) (pc2 := 220) b_26_218_2 rfl rfl ?_
                              refine ov_getf (v := ov_i (h261 1 4)) d_26_220 fl_Tape_37 (zb_1 I262) (zs_1 I262) rfl ?_
                              have g348 := rg_1_4 I262
                              refine ov_blk (ls2 := [(0, ov_r 1)]) (st2 := [ov_i ((h261 1 4) * 10), ov_r 1]) (pc2 := 226) b_26_223_2 rfl rfl ?_
                              refine ov_hav (fun w349 gw349 => ?_)
                              refine ov_blk (ls2 := [(0, ov_r 1)]) (st2 := [ov_r 1, ov_i w349, ov_r 1]) (pc2 := 227) b_26_226_1 rfl rfl ?_
                              refine ov_getf (v := ov_r 2) d_26_227 fl_Tape_9 (zb_1 I262) (zs_1 I262) (congrArg ov_r (rg_1_0 I262)) ?_
                              refine ov_blk (ls2 := [(0, ov_r 1)]) (st2 := [ov_r 1, ov_r 2, ov_i w349, ov_r 1]) (pc2 := 231) b_26_230_1 rfl rfl ?_
                              refine ov_getf (v := ov_i (h261 1 7)) d_26_231 fl_Tape_21 (zb_1 I262) (zs_1 I262) rfl ?_
                              refine ov_cald d_26_234 (zb_2 I262) (zs_2 I262) (by omega) ?_
                              refine ov_blk (ls2 := [(0, ov_r 1)]) (st2 := [ov_i (w349 + (h261 2 (h261 1 7))), ov_r 1]) (pc2 := 236) b_26_235_1 rfl rfl ?_
                              refine ov_hav (fun w352 gw352 => ?_)
                              refine ov_blk (ls2 := [(0, ov_r 1)]) (st2 := [ov_i (w352 - 48), ov_r 1]) (pc2 := 239) b_26_236_2 rfl rfl ?_
                              refine ov_hav (fun w353 gw353 => ?_)
                              refine ov_putf (x := w353) d_26_239 fl_Tape_37 (zb_1 I262) (zs_1 I262) rfl nk_0 rfl ?_
                              have I354 := up_1_4 (x := w353) I262 (by omega) (hw 1 (by decide +kernel))
                              refine ov_blk (ls2 := [(0, ov_r 1)]) (st2 := [ov_r 1, ov_r 1]) (pc2 := 244) b_26_242_2 rfl rfl ?_
                              refine ov_getf (v := ov_i (h261 1 7)) d_26_244 fl_Tape_21 (zb_1 I354) (zs_1 I354) rfl ?_
                              refine ov_blk (ls2 := [(0, ov_r 1)]) (st2 := [ov_i ((h261 1 7) + 1), ov_r 1]) (pc2 := 249) b_26_247_2 rfl rfl ?_
                              refine ov_putf (x := ((h261 1 7) + 1)) d_26_249 fl_Tape_21 (zb_1 I354) (zs_1 I354) rfl nk_0 rfl ?_
                              have I356 := up_1_7 (x := ((h261 1 7) + 1)) I354 (by omega) (hw 1 (by decide +kernel))
                              refine ov_goto (tgt := 179) d_26_252 (by decide) ?_
                              exact ih257  _ _ I356 (by show (h261 3 3) = (h 3 3) ∧ 0 ≤ ((h261 1 7) + 1) ∧ ((h261 1 7) + 1) ≤ 1000 ∧ (h261 36 7) = (h 36 7) ∧ (h261 1 1) = (h 1 1) ∧ (h261 90 2) = (h 90 2) ∧ (h261 0 10) = (h 0 10) ∧ (h261 0 11) = (h 0 11) ∧ (h261 0 12) = (h 0 12) ∧ (h261 0 13) = (h 0 13) ∧ (h261 3 1) = (h 3 1) ∧ (h261 36 8) = (h 36 8) ∧ (h261 46 3) = (h 46 3) ∧ (h261 46 4) = (h 46 4) ∧ (h261 49 4) = (h 49 4) ∧ (h261 49 5) = (h 49 5) ∧ (h261 64 0) = (h 64 0) ∧ (h261 76 0) = (h 76 0); omega) (by show 1000 - ((h261 1 7) + 1) < _; omega)
                    exact L259 1001  _ _ I255 (by show (h20 3 3) = (h 3 3) ∧ 0 ≤ (h20 1 7) ∧ (h20 1 7) ≤ 1000 ∧ (h20 36 7) = (h 36 7) ∧ (h20 1 1) = (h 1 1) ∧ (h20 90 2) = (h 90 2) ∧ (h20 0 10) = (h 0 10) ∧ (h20 0 11) = (h 0 11) ∧ (h20 0 12) = (h 0 12) ∧ (h20 0 13) = (h 0 13) ∧ (h20 3 1) = (h 3 1) ∧ (h20 36 8) = (h 36 8) ∧ (h20 46 3) = (h 46 3) ∧ (h20 46 4) = (h 46 4) ∧ (h20 49 4) = (h 49 4) ∧ (h20 49 5) = (h 49 5) ∧ (h20 64 0) = (h 64 0) ∧ (h20 76 0) = (h 76 0); omega) (by show 1000 - (h20 1 7) < _; omega)
                  · skip
                    refine ov_blk (ls2 := [(0, ov_r 1)]) (st2 := [ov_r 1, ov_r 1]) (pc2 := 152) b_26_150_2 rfl rfl ?_
                    refine ov_getf (v := ov_i (h20 1 7)) d_26_152 fl_Tape_21 (zb_1 I21) (zs_1 I21) rfl ?_
                    refine ov_blk (ls2 := [(0, ov_r 1)]) (st2 := [ov_r 1, ov_i (h20 1 7), ov_r 1]) (pc2 := 156) b_26_155_1 rfl rfl ?_
                    refine ov_getf (v := ov_i (h20 1 3)) d_26_156 fl_Tape_27 (zb_1 I21) (zs_1 I21) rfl ?_
                    refine ov_blk (ls2 := [(0, ov_r 1)]) (st2 := [ov_i 8, ov_i ((h20 1 7) - (h20 1 3)), ov_r 1]) (pc2 := 162) b_26_159_2 rfl rfl ?_
                    refine ov_icle (tgt := 169) d_26_162 (by decide) (by omega) (by omega) (fun c359 => ?_) (fun c359 => ?_)
                    · skip
                      refine ov_blk (ls2 := [(0, ov_r 1)]) (st2 := [ov_i 2, ov_r 1]) (pc2 := 170) b_26_169_1 rfl rfl ?_
                      refine ov_putf (x := 2) d_26_170 fl_Tape_34 (zb_1 I21) (zs_1 I21) rfl nk_0 rfl ?_
                      have I360 := up_1_2 (x := 2) I21 (by omega) (hw 1 (by decide +kernel))
                      exact ov_retv (st := []) d_26_173 rfl ⟨rfl, I360, (by show (h20 3 3) = (h 3 3) ∧ (h20 36 7) = (h 36 7) ∧ (h20 1 1) = (h 1 1) ∧ (h20 90 2) = (h 90 2) ∧ (h20 0 10) = (h 0 10) ∧ (h20 0 11) = (h 0 11) ∧ (h20 0 12) = (h 0 12) ∧ (h20 0 13) = (h 0 13) ∧ (h20 3 1) = (h 3 1) ∧ (h20 36 8) = (h 36 8) ∧ (h20 46 3) = (h 46 3) ∧ (h20 46 4) = (h 46 4) ∧ (h20 49 4) = (h 49 4) ∧ (h20 49 5) = (h 49 5) ∧ (h20 64 0) = (h 64 0) ∧ (h20 76 0) = (h 76 0); omega)⟩
                    · skip
                      refine ov_blk (ls2 := [(0, ov_r 1)]) (st2 := [ov_i 1, ov_r 1]) (pc2 := 166) b_26_165_1 rfl rfl ?_
                      refine ov_goto (tgt := 170) d_26_166 (by decide) ?_
                      refine ov_putf (x := 1) d_26_170 fl_Tape_34 (zb_1 I21) (zs_1 I21) rfl nk_0 rfl ?_
                      have I361 := up_1_2 (x := 1) I21 (by omega) (hw 1 (by decide +kernel))
                      exact ov_retv (st := []) d_26_173 rfl ⟨rfl, I361, (by show (h20 3 3) = (h 3 3) ∧ (h20 36 7) = (h 36 7) ∧ (h20 1 1) = (h 1 1) ∧ (h20 90 2) = (h 90 2) ∧ (h20 0 10) = (h 0 10) ∧ (h20 0 11) = (h 0 11) ∧ (h20 0 12) = (h 0 12) ∧ (h20 0 13) = (h 0 13) ∧ (h20 3 1) = (h 3 1) ∧ (h20 36 8) = (h 36 8) ∧ (h20 46 3) = (h 46 3) ∧ (h20 46 4) = (h 46 4) ∧ (h20 49 4) = (h 49 4) ∧ (h20 49 5) = (h 49 5) ∧ (h20 64 0) = (h 64 0) ∧ (h20 76 0) = (h 76 0); omega)⟩
                · skip
                  refine ov_blk (ls2 := [(0, ov_r 1)]) (st2 := [ov_r 1, ov_r 1]) (pc2 := 106) b_26_104_2 rfl rfl ?_
                  refine ov_getf (v := ov_l (h20 1 6)) d_26_106 fl_Tape_30 (zb_1 I21) (zs_1 I21) rfl ?_
                  refine ov_blk (ls2 := [(0, ov_r 1)]) (st2 := [ov_r 1, ov_l (ov_lshl (h20 1 6) 8), ov_r 1]) (pc2 := 113) b_26_109_3 rfl rfl ?_
                  refine ov_getf (v := ov_r 2) d_26_113 fl_Tape_9 (zb_1 I21) (zs_1 I21) (congrArg ov_r (rg_1_0 I21)) ?_
                  refine ov_blk (ls2 := [(0, ov_r 1)]) (st2 := [ov_r 1, ov_r 2, ov_l (ov_lshl (h20 1 6) 8), ov_r 1]) (pc2 := 117) b_26_116_1 rfl rfl ?_
                  refine ov_getf (v := ov_i (h20 1 7)) d_26_117 fl_Tape_21 (zb_1 I21) (zs_1 I21) rfl ?_
                  refine ov_cald d_26_120 (zb_2 I21) (zs_2 I21) (by omega) ?_
                  refine ov_blk (ls2 := [(0, ov_r 1)]) (st2 := [ov_l (ov_lor (ov_lshl (h20 1 6) 8) (ov_w (h20 2 (h20 1 7)))), ov_r 1]) (pc2 := 123) b_26_121_2 rfl rfl ?_
                  have g364 := ov_wg (h20 2 (h20 1 7))
                  have g365 := ov_wq (h20 2 (h20 1 7))
                  refine ov_putf (x := (ov_lor (ov_lshl (h20 1 6) 8) (ov_w (h20 2 (h20 1 7))))) d_26_123 fl_Tape_30 (zb_1 I21) (zs_1 I21) rfl nk_1 rfl ?_
                  have I366 := up_1_6 (x := (ov_lor (ov_lshl (h20 1 6) 8) (ov_w (h20 2 (h20 1 7))))) I21 (hw 1 (by decide +kernel))
                  refine ov_blk (ls2 := [(0, ov_r 1)]) (st2 := [ov_r 1, ov_r 1]) (pc2 := 128) b_26_126_2 rfl rfl ?_
                  refine ov_getf (v := ov_i (h20 1 7)) d_26_128 fl_Tape_21 (zb_1 I366) (zs_1 I366) rfl ?_
                  refine ov_blk (ls2 := [(0, ov_r 1)]) (st2 := [ov_i ((h20 1 7) + 1), ov_r 1]) (pc2 := 133) b_26_131_2 rfl rfl ?_
                  refine ov_putf (x := ((h20 1 7) + 1)) d_26_133 fl_Tape_21 (zb_1 I366) (zs_1 I366) rfl nk_0 rfl ?_
                  have I368 := up_1_7 (x := ((h20 1 7) + 1)) I366 (by omega) (hw 1 (by decide +kernel))
                  refine ov_goto (tgt := 65) d_26_136 (by decide) ?_
                  exact ih16  _ _ I368 (by show (h20 3 3) = (h 3 3) ∧ 0 ≤ ((h20 1 7) + 1) ∧ ((h20 1 7) + 1) ≤ 1000 ∧ (h20 36 7) = (h 36 7) ∧ (h20 1 1) = (h 1 1) ∧ (h20 90 2) = (h 90 2) ∧ (h20 0 10) = (h 0 10) ∧ (h20 0 11) = (h 0 11) ∧ (h20 0 12) = (h 0 12) ∧ (h20 0 13) = (h 0 13) ∧ (h20 3 1) = (h 3 1) ∧ (h20 36 8) = (h 36 8) ∧ (h20 46 3) = (h 46 3) ∧ (h20 46 4) = (h 46 4) ∧ (h20 49 4) = (h 49 4) ∧ (h20 49 5) = (h 49 5) ∧ (h20 64 0) = (h 64 0) ∧ (h20 76 0) = (h 76 0); omega) (by show 1000 - ((h20 1 7) + 1) < _; omega)
        exact L18 1001  _ _ I14 (by show (h6 3 3) = (h 3 3) ∧ 0 ≤ (h6 1 7) ∧ (h6 1 7) ≤ 1000 ∧ (h6 36 7) = (h 36 7) ∧ (h6 1 1) = (h 1 1) ∧ (h6 90 2) = (h 90 2) ∧ (h6 0 10) = (h 0 10) ∧ (h6 0 11) = (h 0 11) ∧ (h6 0 12) = (h 0 12) ∧ (h6 0 13) = (h 0 13) ∧ (h6 3 1) = (h 3 1) ∧ (h6 36 8) = (h 36 8) ∧ (h6 46 3) = (h 46 3) ∧ (h6 46 4) = (h 46 4) ∧ (h6 49 4) = (h 49 4) ∧ (h6 49 5) = (h 49 5) ∧ (h6 64 0) = (h 64 0) ∧ (h6 76 0) = (h 76 0); omega) (by show 1000 - (h6 1 7) < _; omega)
      · skip
        refine ov_blk (ls2 := [(0, ov_r 1)]) (st2 := [ov_r 1]) (pc2 := 12) b_26_11_1 rfl rfl ?_
        refine ov_getf (v := ov_r 2) d_26_12 fl_Tape_9 (zb_1 I7) (zs_1 I7) (congrArg ov_r (rg_1_0 I7)) ?_
        refine ov_blk (ls2 := [(0, ov_r 1)]) (st2 := [ov_r 1, ov_r 2]) (pc2 := 16) b_26_15_1 rfl rfl ?_
        refine ov_getf (v := ov_i (h6 1 7)) d_26_16 fl_Tape_21 (zb_1 I7) (zs_1 I7) rfl ?_
        refine ov_cald d_26_19 (zb_2 I7) (zs_2 I7) (by omega) ?_
        have g370 := ra_2 I7 (h6 1 7)
        refine ov_blk (ls2 := [(0, ov_r 1)]) (st2 := [ov_i 10, ov_i (h6 2 (h6 1 7))]) (pc2 := 22) b_26_20_1 rfl rfl ?_
        refine ov_iceq (tgt := 39) d_26_22 (by decide) (by omega) (by omega) (fun c371 => ?_) (fun c371 => ?_)
        · skip
          refine ov_blk (ls2 := [(0, ov_r 1)]) (st2 := [ov_r 1, ov_r 1]) (pc2 := 41) b_26_39_2 rfl rfl ?_
          refine ov_getf (v := ov_i (h6 1 7)) d_26_41 fl_Tape_21 (zb_1 I7) (zs_1 I7) rfl ?_
          refine ov_blk (ls2 := [(0, ov_r 1)]) (st2 := [ov_i ((h6 1 7) + 1), ov_r 1]) (pc2 := 46) b_26_44_2 rfl rfl ?_
          refine ov_putf (x := ((h6 1 7) + 1)) d_26_46 fl_Tape_21 (zb_1 I7) (zs_1 I7) rfl nk_0 rfl ?_
          have I373 := up_1_7 (x := ((h6 1 7) + 1)) I7 (by omega) (hw 1 (by decide +kernel))
          refine ov_goto (tgt := 0) d_26_49 (by decide) ?_
          exact ih2  _ _ I373 (by show (h6 3 3) = (h 3 3) ∧ 0 ≤ ((h6 1 7) + 1) ∧ ((h6 1 7) + 1) ≤ 1000 ∧ (h6 36 7) = (h 36 7) ∧ (h6 1 1) = (h 1 1) ∧ (h6 90 2) = (h 90 2) ∧ (h6 0 10) = (h 0 10) ∧ (h6 0 11) = (h 0 11) ∧ (h6 0 12) = (h 0 12) ∧ (h6 0 13) = (h 0 13) ∧ (h6 3 1) = (h 3 1) ∧ (h6 36 8) = (h 36 8) ∧ (h6 46 3) = (h 46 3) ∧ (h6 46 4) = (h 46 4) ∧ (h6 49 4) = (h 49 4) ∧ (h6 49 5) = (h 49 5) ∧ (h6 64 0) = (h 64 0) ∧ (h6 76 0) = (h 76 0); omega) (by show 1000 - ((h6 1 7) + 1) < _; omega)
        · skip
          refine ov_blk (ls2 := [(0, ov_r 1)]) (st2 := [ov_r 1]) (pc2 := 26) b_26_25_1 rfl rfl ?_
          refine ov_getf (v := ov_r 2) d_26_26 fl_Tape_9 (zb_1 I7) (zs_1 I7) (congrArg ov_r (rg_1_0 I7)) ?_
          refine ov_blk (ls2 := [(0, ov_r 1)]) (st2 := [ov_r 1, ov_r 2]) (pc2 := 30) b_26_29_1 rfl rfl ?_
          refine ov_getf (v := ov_i (h6 1 7)) d_26_30 fl_Tape_21 (zb_1 I7) (zs_1 I7) rfl ?_
          refine ov_cald d_26_33 (zb_2 I7) (zs_2 I7) (by omega) ?_
          refine ov_blk (ls2 := [(0, ov_r 1)]) (st2 := [ov_i 32, ov_i (h6 2 (h6 1 7))]) (pc2 := 36) b_26_34_1 rfl rfl ?_
          refine ov_icne (tgt := 52) d_26_36 (by decide) (by omega) (by omega) (fun c376 => ?_) (fun c376 => ?_)
          · skip
            refine ov_blk (ls2 := [(0, ov_r 1)]) (st2 := [ov_r 1, ov_r 1]) (pc2 := 54) b_26_52_2 rfl rfl ?_
            refine ov_getf (v := ov_i (h6 1 7)) d_26_54 fl_Tape_21 (zb_1 I7) (zs_1 I7) rfl ?_
            refine ov_putf (x := (h6 1 7)) d_26_57 fl_Tape_27 (zb_1 I7) (zs_1 I7) rfl nk_0 rfl ?_
            have I378 := up_1_3 (x := (h6 1 7)) I7 (by omega) (hw 1 (by decide +kernel))
            refine ov_blk (ls2 := [(0, ov_r 1)]) (st2 := [ov_l 0, ov_r 1]) (pc2 := 62) b_26_60_2 rfl rfl ?_
            refine ov_putf (x := 0) d_26_62 fl_Tape_30 (zb_1 I378) (zs_1 I378) rfl nk_1 rfl ?_
            have I379 := up_1_6 (x := 0) I378 (hw 1 (by decide +kernel))
            have L383 : ∀ (n380 : Nat) (z384 : ov_Z) (h385 : ov_H) (I386 : ov_I F z384 h385) (q382 : (h385 3 3) = (h 3 3) ∧ 0 ≤ (h385 1 7) ∧ (h385 1 7) ≤ 1000 ∧ (h385 36 7) = (h 36 7) ∧ (h385 1 1) = (h 1 1) ∧ (h385 90 2) = (h 90 2) ∧ (h385 0 10) = (h 0 10) ∧ (h385 0 11) = (h 0 11) ∧ (h385 0 12) = (h 0 12) ∧ (h385 0 13) = (h 0 13) ∧ (h385 3 1) = (h 3 1) ∧ (h385 36 8) = (h 36 8) ∧ (h385 46 3) = (h 46 3) ∧ (h385 46 4) = (h 46 4) ∧ (h385 49 4) = (h 49 4) ∧ (h385 49 5) = (h 49 5) ∧ (h385 64 0) = (h 64 0) ∧ (h385 76 0) = (h 76 0)), 1000 - (h385 1 7) < (n380 : Int) → ov_R u d ov_m26 65 [(0, ov_r 1)] [] z384 h385 (P_Tape_advance_1 F z h) := by
              intro n380
              induction n380 with
              | zero =>
                intro  z384 h385 I386 q382 hn387
                exact absurd hn387 (by omega)
              | succ n380 ih381 =>
                intro  z384 h385 I386 q382 hn387
                refine ov_blk (ls2 := [(0, ov_r 1)]) (st2 := [ov_r 1]) (pc2 := 66) b_26_65_1 rfl rfl ?_
                refine ov_getf (v := ov_i (h385 1 7)) d_26_66 fl_Tape_21 (zb_1 I386) (zs_1 I386) rfl ?_
                have g388 := rg_1_7 I386
                refine ov_blk (ls2 := [(0, ov_r 1)]) (st2 := [ov_r 1, ov_i (h385 1 7)]) (pc2 := 70) b_26_69_1 rfl rfl ?_
                refine ov_getf (v := ov_i (h385 1 1)) d_26_70 fl_Tape_17 (zb_1 I386) (zs_1 I386) rfl ?_
                have g389 := rg_1_1 I386
                refine ov_icge (tgt := 139) d_26_73 (by decide) (by omega) (by omega) (fun c390 => ?_) (fun c390 => ?_)
                · skip
                  refine ov_blk (ls2 := [(0, ov_r 1)]) (st2 := [ov_r 1]) (pc2 := 140) b_26_139_1 rfl rfl ?_
                  refine ov_getf (v := ov_i (h385 1 7)) d_26_140 fl_Tape_21 (zb_1 I386) (zs_1 I386) rfl ?_
                  refine ov_blk (ls2 := [(0, ov_r 1)]) (st2 := [ov_r 1, ov_i (h385 1 7)]) (pc2 := 144) b_26_143_1 rfl rfl ?_
                  refine ov_getf (v := ov_i (h385 1 3)) d_26_144 fl_Tape_27 (zb_1 I386) (zs_1 I386) rfl ?_
                  have g392 := rg_1_3 I386
                  refine ov_icle (tgt := 174) d_26_147 (by decide) (by omega) (by omega) (fun c393 => ?_) (fun c393 => ?_)
                  · skip
                    refine ov_blk (ls2 := [(0, ov_r 1)]) (st2 := [ov_i 0, ov_r 1]) (pc2 := 176) b_26_174_2 rfl rfl ?_
                    refine ov_putf (x := 0) d_26_176 fl_Tape_37 (zb_1 I386) (zs_1 I386) rfl nk_0 rfl ?_
                    have I394 := up_1_4 (x := 0) I386 (by omega) (hw 1 (by decide +kernel))
                    have L398 : ∀ (n395 : Nat) (z399 : ov_Z) (h400 : ov_H) (I401 : ov_I F z399 h400) (q397 : (h400 3 3) = (h 3 3) ∧ 0 ≤ (h400 1 7) ∧ (h400 1 7) ≤ 1000 ∧ (h400 36 7) = (h 36 7) ∧ (h400 1 1) = (h 1 1) ∧ (h400 90 2) = (h 90 2) ∧ (h400 0 10) = (h 0 10) ∧ (h400 0 11) = (h 0 11) ∧ (h400 0 12) = (h 0 12) ∧ (h400 0 13) = (h 0 13) ∧ (h400 3 1) = (h 3 1) ∧ (h400 36 8) = (h 36 8) ∧ (h400 46 3) = (h 46 3) ∧ (h400 46 4) = (h 46 4) ∧ (h400 49 4) = (h 49 4) ∧ (h400 49 5) = (h 49 5) ∧ (h400 64 0) = (h 64 0) ∧ (h400 76 0) = (h 76 0)), 1000 - (h400 1 7) < (n395 : Int) → ov_R u d ov_m26 179 [(0, ov_r 1)] [] z399 h400 (P_Tape_advance_1 F z h) := by
                      intro n395
                      induction n395 with
                      | zero =>
                        intro  z399 h400 I401 q397 hn402
                        exact absurd hn402 (by omega)
                      | succ n395 ih396 =>
                        intro  z399 h400 I401 q397 hn402
                        refine ov_blk (ls2 := [(0, ov_r 1)]) (st2 := [ov_r 1]) (pc2 := 180) b_26_179_1 rfl rfl ?_
                        refine ov_getf (v := ov_i (h400 1 7)) d_26_180 fl_Tape_21 (zb_1 I401) (zs_1 I401) rfl ?_
                        have g403 := rg_1_7 I401
                        refine ov_blk (ls2 := [(0, ov_r 1)]) (st2 := [ov_r 1, ov_i (h400 1 7)]) (pc2 := 184) b_26_183_1 rfl rfl ?_
                        refine ov_getf (v := ov_i (h400 1 1)) d_26_184 fl_Tape_17 (zb_1 I401) (zs_1 I401) rfl ?_
                        have g404 := rg_1_1 I401
                        refine ov_icge (tgt := 255) d_26_187 (by decide) (by omega) (by omega) (fun c405 => ?_) (fun c405 => ?_)
                        · skip
                          refine ov_blk (ls2 := [(0, ov_r 1)]) (st2 := [ov_r 1]) (pc2 := 256) b_26_255_1 rfl rfl ?_
                          refine ov_getf (v := ov_i (h400 1 7)) d_26_256 fl_Tape_21 (zb_1 I401) (zs_1 I401) rfl ?_
                          refine ov_blk (ls2 := [(0, ov_r 1)]) (st2 := [ov_r 1, ov_i (h400 1 7)]) (pc2 := 260) b_26_259_1 rfl rfl ?_
                          refine ov_getf (v := ov_i (h400 1 3)) d_26_260 fl_Tape_27 (zb_1 I401) (zs_1 I401) rfl ?_
                          have g407 := rg_1_3 I401
                          refine ov_icle (tgt := 289) d_26_263 (by decide) (by omega) (by omega) (fun c408 => ?_) (fun c408 => ?_)
                          · skip
                            refine ov_blk (ls2 := [(0, ov_r 1)]) (st2 := [ov_i 0, ov_r 1]) (pc2 := 291) b_26_289_2 rfl rfl ?_
                            refine ov_putf (x := 0) d_26_291 fl_Tape_34 (zb_1 I401) (zs_1 I401) rfl nk_0 rfl ?_
                            have I409 := up_1_2 (x := 0) I401 (by omega) (hw 1 (by decide +kernel))
                            refine ov_blk (ls2 := [(0, ov_r 1)]) (st2 := [ov_r 1]) (pc2 := 295) b_26_294_1 rfl rfl ?_
                            refine ov_getf (v := ov_i (h400 1 7)) d_26_295 fl_Tape_21 (zb_1 I409) (zs_1 I409) rfl ?_
                            refine ov_blk (ls2 := [(0, ov_r 1)]) (st2 := [ov_r 1, ov_i (h400 1 7)]) (pc2 := 299) b_26_298_1 rfl rfl ?_
                            refine ov_getf (v := ov_i (h400 1 1)) d_26_299 fl_Tape_17 (zb_1 I409) (zs_1 I409) rfl ?_
                            refine ov_icge (tgt := 349) d_26_302 (by decide) (by omega) (by omega) (fun c412 => ?_) (fun c412 => ?_)
                            · skip
                              exact ov_retv (st := []) d_26_349 rfl ⟨rfl, I409, (by show (h400 3 3) = (h 3 3) ∧ (h400 36 7) = (h 36 7) ∧ (h400 1 1) = (h 1 1) ∧ (h400 90 2) = (h 90 2) ∧ (h400 0 10) = (h 0 10) ∧ (h400 0 11) = (h 0 11) ∧ (h400 0 12) = (h 0 12) ∧ (h400 0 13) = (h 0 13) ∧ (h400 3 1) = (h 3 1) ∧ (h400 36 8) = (h 36 8) ∧ (h400 46 3) = (h 46 3) ∧ (h400 46 4) = (h 46 4) ∧ (h400 49 4) = (h 49 4) ∧ (h400 49 5) = (h 49 5) ∧ (h400 64 0) = (h 64 0) ∧ (h400 76 0) = (h 76 0); omega)⟩
                            · skip
                              refine ov_blk (ls2 := [(0, ov_r 1)]) (st2 := [ov_r 1, ov_r 1]) (pc2 := 307) b_26_305_2 rfl rfl ?_
                              refine ov_getf (v := ov_r 2) d_26_307 fl_Tape_9 (zb_1 I409) (zs_1 I409) (congrArg ov_r (rg_1_0 I409)) ?_
                              refine ov_blk (ls2 := [(0, ov_r 1)]) (st2 := [ov_r 1, ov_r 2, ov_r 1]) (pc2 := 311) b_26_310_1 rfl rfl ?_
                              refine ov_getf (v := ov_i (h400 1 7)) d_26_311 fl_Tape_21 (zb_1 I409) (zs_1 I409) rfl ?_
                              refine ov_cald d_26_314 (zb_2 I409) (zs_2 I409) (by omega) ?_
                              show ov_R u d ov_m26 315 [(0, ov_r 1)] [ov_i (h400 2 (h400 1 7)), ov_r 1] z399 (ov_up h400 1 2 0) (P_Tape_advance_1 F z h)
                              have g414 := ra_2 I401 (h400 1 7)
                              refine ov_putf (x := (h400 2 (h400 1 7))) d_26_315 fl_Tape_40 (zb_1 I409) (zs_1 I409) rfl (nk_4 (by omega)) rfl ?_
                              have I415 := up_1_5 (x := (h400 2 (h400 1 7))) I409 (by omega) (hw 1 (by decide +kernel))
                              refine ov_blk (ls2 := [(0, ov_r 1)]) (st2 := [ov_r 1]) (pc2 := 319) b_26_318_1 rfl rfl ?_
                              refine ov_ldcT d_26_319 rfl U.2.2 ?_
                              refine ov_blk (ls2 := [(0, ov_r 1)]) (st2 := [ov_r 1, ov_r (-3), ov_r 1]) (pc2 := 322) b_26_321_1 rfl rfl ?_
                              refine ov_getf (v := ov_i (h400 2 (h400 1 7))) d_26_322 fl_Tape_40 (zb_1 I415) (zs_1 I415) rfl ?_
                              refine ov_cVS (as := [ov_i (h400 2 (h400 1 7))]) (st := [ov_r 1]) (d2 := d - 1) d_26_325 lk_Tape_46 rfl (Nat.le_of_ble_eq_true rfl) U.2.2 rfl (by omega) (c_String_indexOf_II_m3 (d - 1) (by omega) U I415 (h400 2 (h400 1 7)) (by omega)) ?_
                              rintro _ _ _ ⟨v417, rfl, rfl, rfl, f416⟩
                              show ov_R u d ov_m26 328 [(0, ov_r 1)] [ov_i v417, ov_r 1] z399 (ov_up (ov_up h400 1 2 0) 1 5 (h400 2 (h400 1 7))) (P_Tape_advance_1 F z h)
                              have f418 : -1 ≤ v417 ∧ v417 ≤ 8 := f416
                              clear f416
                              refine ov_iflt (tgt := 335) d_26_328 (by decide) (by omega) (fun c419 => ?_) (fun c419 => ?_)
                              · skip
                                refine ov_blk (ls2 := [(0, ov_r 1)]) (st2 := [ov_i 1, ov_r 1]) (pc2 := 336) b_26_335_1 rfl rfl ?_
                                refine ov_putf (x := 1) d_26_336 fl_Tape_34 (zb_1 I415) (zs_1 I415) rfl nk_0 rfl ?_
                                have I420 := up_1_2 (x := 1) I415 (by omega) (hw 1 (by decide +kernel))
                                refine ov_blk (ls2 := [(0, ov_r 1)]) (st2 := [ov_r 1, ov_r 1]) (pc2 := 341) b_26_339_2 rfl rfl ?_
                                refine ov_getf (v := ov_i (h400 1 7)) d_26_341 fl_Tape_21 (zb_1 I420) (zs_1 I420) rfl ?_
                                refine ov_blk (ls2 := [(0, ov_r 1)]) (st2 := [ov_i ((h400 1 7) + 1), ov_r 1]) (pc2 := 346) b_26_344_2 rfl rfl ?_
                                refine ov_putf (x := ((h400 1 7) + 1)) d_26_346 fl_Tape_21 (zb_1 I420) (zs_1 I420) rfl nk_0 rfl ?_
                                have I422 := up_1_7 (x := ((h400 1 7) + 1)) I420 (by omega) (hw 1 (by decide +kernel))
                                exact ov_retv (st := []) d_26_349 rfl ⟨rfl, I422, (by show (h400 3 3) = (h 3 3) ∧ (h400 36 7) = (h 36 7) ∧ (h400 1 1) = (h 1 1) ∧ (h400 90 2) = (h 90 2) ∧ (h400 0 10) = (h 0 10) ∧ (h400 0 11) = (h 0 11) ∧ (h400 0 12) = (h 0 12) ∧ (h400 0 13) = (h 0 13) ∧ (h400 3 1) = (h 3 1) ∧ (h400 36 8) = (h 36 8) ∧ (h400 46 3) = (h 46 3) ∧ (h400 46 4) = (h 46 4) ∧ (h400 49 4) = (h 49 4) ∧ (h400 49 5) = (h 49 5) ∧ (h400 64 0) = (h 64 0) ∧ (h400 76 0) = (h 76 0); omega)⟩
                              · skip
                                refine ov_blk (ls2 := [(0, ov_r 1)]) (st2 := [ov_i 4, ov_r 1]) (pc2 := 332) b_26_331_1 rfl rfl ?_
                                refine ov_goto (tgt := 336) d_26_332 (by decide) ?_
                                refine ov_putf (x := 4) d_26_336 fl_Tape_34 (zb_1 I415) (zs_1 I415) rfl nk_0 rfl ?_
                                have I423 := up_1_2 (x := 4) I415 (by omega) (hw 1 (by decide +kernel))
                                refine ov_blk (ls2 := [(0, ov_r 1)]) (st2 := [ov_r 1, ov_r 1]) (pc2 := 341) b_26_339_2 rfl rfl ?_
                                refine ov_getf (v := ov_i (h400 1 7)) d_26_341 fl_Tape_21 (zb_1 I423) (zs_1 I423) rfl ?_
                                refine ov_blk (ls2 := [(0, ov_r 1)]) (st2 := [ov_i ((h400 1 7) + 1), ov_r 1]) (pc2 := 346) b_26_344_2 rfl rfl ?_
                                refine ov_putf (x := ((h400 1 7) + 1)) d_26_346 fl_Tape_21 (zb_1 I423) (zs_1 I423) rfl nk_0 rfl ?_
                                have I425 := up_1_7 (x := ((h400 1 7) + 1)) I423 (by omega) (hw 1 (by decide +kernel))
                                exact ov_retv (st := []) d_26_349 rfl ⟨rfl, I425, (by show (h400 3 3) = (h 3 3) ∧ (h400 36 7) = (h 36 7) ∧ (h400 1 1) = (h 1 1) ∧ (h400 90 2) = (h 90 2) ∧ (h400 0 10) = (h 0 10) ∧ (h400 0 11) = (h 0 11) ∧ (h400 0 12) = (h 0 12) ∧ (h400 0 13) = (h 0 13) ∧ (h400 3 1) = (h 3 1) ∧ (h400 36 8) = (h 36 8) ∧ (h400 46 3) = (h 46 3) ∧ (h400 46 4) = (h 46 4) ∧ (h400 49 4) = (h 49 4) ∧ (h400 49 5) = (h 49 5) ∧ (h400 64 0) = (h 64 0) ∧ (h400 76 0) = (h 76 0); omega)⟩
                          · skip
                            refine ov_blk (ls2 := [(0, ov_r 1)]) (st2 := [ov_r 1, ov_r 1]) (pc2 := 268) b_26_266_2 rfl rfl ?_
                            refine ov_getf (v := ov_i (h400 1 7)) d_26_268 fl_Tape_21 (zb_1 I401) (zs_1 I401) rfl ?_
                            refine ov_blk (ls2 := [(0, ov_r 1)]) (st2 := [ov_r 1, ov_i (h400 1 7), ov_r 1]) (pc2 := 272) b_26_271_1 rfl rfl ?_
                            refine ov_getf (v := ov_i (h400 1 3)) d_26_272 fl_Tape_27 (zb_1 I401) (zs_1 I401) rfl ?_
                            refine ov_blk (ls2 := [(0, ov_r 1)]) (st2 := [ov_i 4, ov_i ((h400 1 7) - (h400 1 3)), ov_r 1]) (pc2 := 277) b_26_275_2 rfl rfl ?_
                            refine ov_icle (tgt := 284) d_26_277 (by decide) (by omega) (by omega) (fun c428 => ?_) (fun c428 => ?_)
                            · skip
                              refine ov_blk (ls2 := [(0, ov_r 1)]) (st2 := [ov_i 3, ov_r 1]) (pc2 := 285) b_26_284_1 rfl rfl ?_
                              refine ov_putf (x := 3) d_26_285 fl_Tape_34 (zb_1 I401) (zs_1 I401) rfl nk_0 rfl ?_
                              have I429 := up_1_2 (x := 3) I401 (by omega) (hw 1 (by decide +kernel))
                              exact ov_retv (st := []) d_26_288 rfl ⟨rfl, I429, (by show (h400 3 3) = (h 3 3) ∧ (h400 36 7) = (h 36 7) ∧ (h400 1 1) = (h 1 1) ∧ (h400 90 2) = (h 90 2) ∧ (h400 0 10) = (h 0 10) ∧ (h400 0 11) = (h 0 11) ∧ (h400 0 12) = (h 0 12) ∧ (h400 0 13) = (h 0 13) ∧ (h400 3 1) = (h 3 1) ∧ (h400 36 8) = (h 36 8) ∧ (h400 46 3) = (h 46 3) ∧ (h400 46 4) = (h 46 4) ∧ (h400 49 4) = (h 49 4) ∧ (h400 49 5) = (h 49 5) ∧ (h400 64 0) = (h 64 0) ∧ (h400 76 0) = (h 76 0); omega)⟩
                            · skip
                              refine ov_blk (ls2 := [(0, ov_r 1)]) (st2 := [ov_i 1, ov_r 1]) (pc2 := 281) b_26_280_1 rfl rfl ?_
                              refine ov_goto (tgt := 285) d_26_281 (by decide) ?_
                              refine ov_putf (x := 1) d_26_285 fl_Tape_34 (zb_1 I401) (zs_1 I401) rfl nk_0 rfl ?_
                              have I430 := up_1_2 (x := 1) I401 (by omega) (hw 1 (by decide +kernel))
                              exact ov_retv (st := []) d_26_288 rfl ⟨rfl, I430, (by show (h400 3 3) = (h 3 3) ∧ (h400 36 7) = (h 36 7) ∧ (h400 1 1) = (h 1 1) ∧ (h400 90 2) = (h 90 2) ∧ (h400 0 10) = (h 0 10) ∧ (h400 0 11) = (h 0 11) ∧ (h400 0 12) = (h 0 12) ∧ (h400 0 13) = (h 0 13) ∧ (h400 3 1) = (h 3 1) ∧ (h400 36 8) = (h 36 8) ∧ (h400 46 3) = (h 46 3) ∧ (h400 46 4) = (h 46 4) ∧ (h400 49 4) = (h 49 4) ∧ (h400 49 5) = (h 49 5) ∧ (h400 64 0) = (h 64 0) ∧ (h400 76 0) = (h 76 0); omega)⟩
                        · skip
                          refine ov_blk (ls2 := [(0, ov_r 1)]) (st2 := [ov_r 1]) (pc2 := 191) b_26_190_1 rfl rfl ?_
                          refine ov_getf (v := ov_r 2) d_26_191 fl_Tape_9 (zb_1 I401) (zs_1 I401) (congrArg ov_r (rg_1_0 I401)) ?_
                          refine ov_blk (ls2 := [(0, ov_r 1)]) (st2 := [ov_r 1, ov_r 2]) (pc2 := 195) b_26_194_1 rfl rfl ?_
                          refine ov_getf (v := ov_i (h400 1 7)) d_26_195 fl_Tape_21 (zb_1 I401) (zs_1 I401) rfl ?_
                          refine ov_cald d_26_198 (zb_2 I401) (zs_2 I401) (by omega) ?_
                          have g432 := ra_2 I401 (h400 1 7)
                          refine ov_blk (ls2 := [(0, ov_r 1)]) (st2 := [ov_i 48, ov_i (h400 2 (h400 1 7))]) (pc2 := 201) b_26_199_1 rfl rfl ?_
                          refine ov_iclt (tgt := 255) d_26_201 (by decide) (by omega) (by omega) (fun c433 => ?_) (fun c433 => ?_)
                          · skip
                            refine ov_blk (ls2 := [(0, ov_r 1)]) (st2 := [ov_r 1]) (pc2 := 256) b_26_255_1 rfl rfl ?_
                            refine ov_getf (v := ov_i (h400 1 7)) d_26_256 fl_Tape_21 (zb_1 I401) (zs_1 I401) rfl ?_
                            refine ov_blk (ls2 := [(0, ov_r 1)]) (st2 := [ov_r 1, ov_i (h400 1 7)]) (pc2 := 260) b_26_259_1 rfl rfl ?_
                            refine ov_getf (v := ov_i (h400 1 3)) d_26_260 fl_Tape_27 (zb_1 I401) (zs_1 I401) rfl ?_
                            have g435 := rg_1_3 I401
                            refine ov_icle (tgt := 289) d_26_263 (by decide) (by omega) (by omega) (fun c436 => ?_) (fun c436 => ?_)
                            · skip
                              refine ov_blk (ls2 := [(0, ov_r 1)]) (st2 := [ov_i 0, ov_r 1]) (pc2 := 291) b_26_289_2 rfl rfl ?_
                              refine ov_putf (x := 0) d_26_291 fl_Tape_34 (zb_1 I401) (zs_1 I401) rfl nk_0 rfl ?_
                              have I437 := up_1_2 (x := 0) I401 (by omega) (hw 1 (by decide +kernel))
                              refine ov_blk (ls2 := [(0, ov_r 1)]) (st2 := [ov_r 1]) (pc2 := 295) b_26_294_1 rfl rfl ?_
                              refine ov_getf (v := ov_i (h400 1 7)) d_26_295 fl_Tape_21 (zb_1 I437) (zs_1 I437) rfl ?_
                              refine ov_blk (ls2 := [(0, ov_r 1)]) (st2 := [ov_r 1, ov_i (h400 1 7)]) (pc2 := 299) b_26_298_1 rfl rfl ?_
                              refine ov_getf (v := ov_i (h400 1 1)) d_26_299 fl_Tape_17 (zb_1 I437) (zs_1 I437) rfl ?_
                              refine ov_icge (tgt := 349) d_26_302 (by decide) (by omega) (by omega) (fun c440 => ?_) (fun c440 => ?_)
                              · skip
                                exact ov_retv (st := []) d_26_349 rfl ⟨rfl, I437, (by show (h400 3 3) = (h 3 3) ∧ (h400 36 7) = (h 36 7) ∧ (h400 1 1) = (h 1 1) ∧ (h400 90 2) = (h 90 2) ∧ (h400 0 10) = (h 0 10) ∧ (h400 0 11) = (h 0 11) ∧ (h400 0 12) = (h 0 12) ∧ (h400 0 13) = (h 0 13) ∧ (h400 3 1) = (h 3 1) ∧ (h400 36 8) = (h 36 8) ∧ (h400 46 3) = (h 46 3) ∧ (h400 46 4) = (h 46 4) ∧ (h400 49 4) = (h 49 4) ∧ (h400 49 5) = (h 49 5) ∧ (h400 64 0) = (h 64 0) ∧ (h400 76 0) = (h 76 0); omega)⟩
                              · skip
                                refine ov_blk (ls2 := [(0, ov_r 1)]) (st2 := [ov_r 1, ov_r 1]) (pc2 := 307) b_26_305_2 rfl rfl ?_
                                refine ov_getf (v := ov_r 2) d_26_307 fl_Tape_9 (zb_1 I437) (zs_1 I437) (congrArg ov_r (rg_1_0 I437)) ?_
                                refine ov_blk (ls2 := [(0, ov_r 1)]) (st2 := [ov_r 1, ov_r 2, ov_r 1]) (pc2 := 311) b_26_310_1 rfl rfl ?_
                                refine ov_getf (v := ov_i (h400 1 7)) d_26_311 fl_Tape_21 (zb_1 I437) (zs_1 I437) rfl ?_
                                refine ov_cald d_26_314 (zb_2 I437) (zs_2 I437) (by omega) ?_
                                show ov_R u d ov_m26 315 [(0, ov_r 1)] [ov_i (h400 2 (h400 1 7)), ov_r 1] z399 (ov_up h400 1 2 0) (P_Tape_advance_1 F z h)
                                refine ov_putf (x := (h400 2 (h400 1 7))) d_26_315 fl_Tape_40 (zb_1 I437) (zs_1 I437) rfl (nk_4 (by omega)) rfl ?_
                                have I443 := up_1_5 (x := (h400 2 (h400 1 7))) I437 (by omega) (hw 1 (by decide +kernel))
                                refine ov_blk (ls2 := [(0, ov_r 1)]) (st2 := [ov_r 1]) (pc2 := 319) b_26_318_1 rfl rfl ?_
                                refine ov_ldcT d_26_319 rfl U.2.2 ?_
                                refine ov_blk (ls2 := [(0, ov_r 1)]) (st2 := [ov_r 1, ov_r (-3), ov_r 1]) (pc2 := 322) b_26_321_1 rfl rfl ?_
                                refine ov_getf (v := ov_i (h400 2 (h400 1 7))) d_26_322 fl_Tape_40 (zb_1 I443) (zs_1 I443) rfl ?_
                                refine ov_cVS (as := [ov_i (h400 2 (h400 1 7))]) (st := [ov_r 1]) (d2 := d - 1) d_26_325 lk_Tape_46 rfl (Nat.le_of_ble_eq_true rfl) U.2.2 rfl (by omega) (c_String_indexOf_II_m3 (d - 1) (by omega) U I443 (h400 2 (h400 1 7)) (by omega)) ?_
                                rintro _ _ _ ⟨v445, rfl, rfl, rfl, f444⟩
                                show ov_R u d ov_m26 328 [(0, ov_r 1)] [ov_i v445, ov_r 1] z399 (ov_up (ov_up h400 1 2 0) 1 5 (h400 2 (h400 1 7))) (P_Tape_advance_1 F z h)
                                have f446 : -1 ≤ v445 ∧ v445 ≤ 8 := f444
                                clear f444
                                refine ov_iflt (tgt := 335) d_26_328 (by decide) (by omega) (fun c447 => ?_) (fun c447 => ?_)
                                · skip
                                  refine ov_blk (ls2 := [(0, ov_r 1)]) (st2 := [ov_i 1, ov_r 1]) (pc2 := 336) b_26_335_1 rfl rfl ?_
                                  refine ov_putf (x := 1) d_26_336 fl_Tape_34 (zb_1 I443) (zs_1 I443) rfl nk_0 rfl ?_
                                  have I448 := up_1_2 (x := 1) I443 (by omega) (hw 1 (by decide +kernel))
                                  refine ov_blk (ls2 := [(0, ov_r 1)]) (st2 := [ov_r 1, ov_r 1]) (pc2 := 341) b_26_339_2 rfl rfl ?_
                                  refine ov_getf (v := ov_i (h400 1 7)) d_26_341 fl_Tape_21 (zb_1 I448) (zs_1 I448) rfl ?_
                                  refine ov_blk (ls2 := [(0, ov_r 1)]) (st2 := [ov_i ((h400 1 7) + 1), ov_r 1]) (pc2 := 346) b_26_344_2 rfl rfl ?_
                                  refine ov_putf (x := ((h400 1 7) + 1)) d_26_346 fl_Tape_21 (zb_1 I448) (zs_1 I448) rfl nk_0 rfl ?_
                                  have I450 := up_1_7 (x := ((h400 1 7) + 1)) I448 (by omega) (hw 1 (by decide +kernel))
                                  exact ov_retv (st := []) d_26_349 rfl ⟨rfl, I450, (by show (h400 3 3) = (h 3 3) ∧ (h400 36 7) = (h 36 7) ∧ (h400 1 1) = (h 1 1) ∧ (h400 90 2) = (h 90 2) ∧ (h400 0 10) = (h 0 10) ∧ (h400 0 11) = (h 0 11) ∧ (h400 0 12) = (h 0 12) ∧ (h400 0 13) = (h 0 13) ∧ (h400 3 1) = (h 3 1) ∧ (h400 36 8) = (h 36 8) ∧ (h400 46 3) = (h 46 3) ∧ (h400 46 4) = (h 46 4) ∧ (h400 49 4) = (h 49 4) ∧ (h400 49 5) = (h 49 5) ∧ (h400 64 0) = (h 64 0) ∧ (h400 76 0) = (h 76 0); omega)⟩
                                · skip
                                  refine ov_blk (ls2 := [(0, ov_r 1)]) (st2 := [ov_i 4, ov_r 1]) (pc2 := 332) b_26_331_1 rfl rfl ?_
                                  refine ov_goto (tgt := 336) d_26_332 (by decide) ?_
                                  refine ov_putf (x := 4) d_26_336 fl_Tape_34 (zb_1 I443) (zs_1 I443) rfl nk_0 rfl ?_
                                  have I451 := up_1_2 (x := 4) I443 (by omega) (hw 1 (by decide +kernel))
                                  refine ov_blk (ls2 := [(0, ov_r 1)]) (st2 := [ov_r 1, ov_r 1]) (pc2 := 341) b_26_339_2 rfl rfl ?_
                                  refine ov_getf (v := ov_i (h400 1 7)) d_26_341 fl_Tape_21 (zb_1 I451) (zs_1 I451) rfl ?_
                                  refine ov_blk (ls2 := [(0, ov_r 1)]) (st2 := [ov_i ((h400 1 7) + 1), ov_r 1]) (pc2 := 346) b_26_344_2 rfl rfl ?_
                                  refine ov_putf (x := ((h400 1 7) + 1)) d_26_346 fl_Tape_21 (zb_1 I451) (zs_1 I451) rfl nk_0 rfl ?_
                                  have I453 := up_1_7 (x := ((h400 1 7) + 1)) I451 (by omega) (hw 1 (by decide +kernel))
                                  exact ov_retv (st := []) d_26_349 rfl ⟨rfl, I453, (by show (h400 3 3) = (h 3 3) ∧ (h400 36 7) = (h 36 7) ∧ (h400 1 1) = (h 1 1) ∧ (h400 90 2) = (h 90 2) ∧ (h400 0 10) = (h 0 10) ∧ (h400 0 11) = (h 0 11) ∧ (h400 0 12) = (h 0 12) ∧ (h400 0 13) = (h 0 13) ∧ (h400 3 1) = (h 3 1) ∧ (h400 36 8) = (h 36 8) ∧ (h400 46 3) = (h 46 3) ∧ (h400 46 4) = (h 46 4) ∧ (h400 49 4) = (h 49 4) ∧ (h400 49 5) = (h 49 5) ∧ (h400 64 0) = (h 64 0) ∧ (h400 76 0) = (h 76 0); omega)⟩
                            · skip
                              refine ov_blk (ls2 := [(0, ov_r 1)]) (st2 := [ov_r 1, ov_r 1]) (pc2 := 268) b_26_266_2 rfl rfl ?_
                              refine ov_getf (v := ov_i (h400 1 7)) d_26_268 fl_Tape_21 (zb_1 I401) (zs_1 I401) rfl ?_
                              refine ov_blk (ls2 := [(0, ov_r 1)]) (st2 := [ov_r 1, ov_i (h400 1 7), ov_r 1]) (pc2 := 272) b_26_271_1 rfl rfl ?_
                              refine ov_getf (v := ov_i (h400 1 3)) d_26_272 fl_Tape_27 (zb_1 I401) (zs_1 I401) rfl ?_
                              refine ov_blk (ls2 := [(0, ov_r 1)]) (st2 := [ov_i 4, ov_i ((h400 1 7) - (h400 1 3)), ov_r 1]) (pc2 := 277) b_26_275_2 rfl rfl ?_
                              refine ov_icle (tgt := 284) d_26_277 (by decide) (by omega) (by omega) (fun c456 => ?_) (fun c456 => ?_)
                              · skip
                                refine ov_blk (ls2 := [(0, ov_r 1)]) (st2 := [ov_i 3, ov_r 1]) (pc2 := 285) b_26_284_1 rfl rfl ?_
                                refine ov_putf (x := 3) d_26_285 fl_Tape_34 (zb_1 I401) (zs_1 I401) rfl nk_0 rfl ?_
                                have I457 := up_1_2 (x := 3) I401 (by omega) (hw 1 (by decide +kernel))
                                exact ov_retv (st := []) d_26_288 rfl ⟨rfl, I457, (by show (h400 3 3) = (h 3 3) ∧ (h400 36 7) = (h 36 7) ∧ (h400 1 1) = (h 1 1) ∧ (h400 90 2) = (h 90 2) ∧ (h400 0 10) = (h 0 10) ∧ (h400 0 11) = (h 0 11) ∧ (h400 0 12) = (h 0 12) ∧ (h400 0 13) = (h 0 13) ∧ (h400 3 1) = (h 3 1) ∧ (h400 36 8) = (h 36 8) ∧ (h400 46 3) = (h 46 3) ∧ (h400 46 4) = (h 46 4) ∧ (h400 49 4) = (h 49 4) ∧ (h400 49 5) = (h 49 5) ∧ (h400 64 0) = (h 64 0) ∧ (h400 76 0) = (h 76 0); omega)⟩
                              · skip
                                refine ov_blk (ls2 := [(0, ov_r 1)]) (st2 := [ov_i 1, ov_r 1]) (pc2 := 281) b_26_280_1 rfl rfl ?_
                                refine ov_goto (tgt := 285) d_26_281 (by decide) ?_
                                refine ov_putf (x := 1) d_26_285 fl_Tape_34 (zb_1 I401) (zs_1 I401) rfl nk_0 rfl ?_
                                have I458 := up_1_2 (x := 1) I401 (by omega) (hw 1 (by decide +kernel))
                                exact ov_retv (st := []) d_26_288 rfl ⟨rfl, I458, (by show (h400 3 3) = (h 3 3) ∧ (h400 36 7) = (h 36 7) ∧ (h400 1 1) = (h 1 1) ∧ (h400 90 2) = (h 90 2) ∧ (h400 0 10) = (h 0 10) ∧ (h400 0 11) = (h 0 11) ∧ (h400 0 12) = (h 0 12) ∧ (h400 0 13) = (h 0 13) ∧ (h400 3 1) = (h 3 1) ∧ (h400 36 8) = (h 36 8) ∧ (h400 46 3) = (h 46 3) ∧ (h400 46 4) = (h 46 4) ∧ (h400 49 4) = (h 49 4) ∧ (h400 49 5) = (h 49 5) ∧ (h400 64 0) = (h 64 0) ∧ (h400 76 0) = (h 76 0); omega)⟩
                          · skip
                            refine ov_blk (ls2 := [(0, ov_r 1)]) (st2 := [ov_r 1]) (pc2 := 205) b_26_204_1 rfl rfl ?_
                            refine ov_getf (v := ov_r 2) d_26_205 fl_Tape_9 (zb_1 I401) (zs_1 I401) (congrArg ov_r (rg_1_0 I401)) ?_
                            refine ov_blk (ls2 := [(0, ov_r 1)]) (st2 := [ov_r 1, ov_r 2]) (pc2 := 209) b_26_208_1 rfl rfl ?_
                            refine ov_getf (v := ov_i (h400 1 7)) d_26_209 fl_Tape_21 (zb_1 I401) (zs_1 I401) rfl ?_
                            refine ov_cald d_26_212 (zb_2 I401) (zs_2 I401) (by omega) ?_
                            refine ov_blk (ls2 := [(0, ov_r 1)]) (st2 := [ov_i 57, ov_i (h400 2 (h400 1 7))]) (pc2 := 215) b_26_213_1 rfl rfl ?_
                            refine ov_icgt (tgt := 255) d_26_215 (by decide) (by omega) (by omega) (fun c461 => ?_) (fun c461 => ?_)
                            · skip
                              refine ov_blk (ls2 := [(0, ov_r 1)]) (st2 := [ov_r 1]) (pc2 := 256) b_26_255_1 rfl rfl ?_
                              refine ov_getf (v := ov_i (h400 1 7)) d_26_256 fl_Tape_21 (zb_1 I401) (zs_1 I401) rfl ?_
                              refine ov_blk (ls2 := [(0, ov_r 1)]) (st2 := [ov_r 1, ov_i (h400 1 7)]) (pc2 := 260) b_26_259_1 rfl rfl ?_
                              refine ov_getf (v := ov_i (h400 1 3)) d_26_260 fl_Tape_27 (zb_1 I401) (zs_1 I401) rfl ?_
                              have g463 := rg_1_3 I401
                              refine ov_icle (tgt := 289) d_26_263 (by decide) (by omega) (by omega) (fun c464 => ?_) (fun c464 => ?_)
                              · skip
                                refine ov_blk (ls2 := [(0, ov_r 1)]) (st2 := [ov_i 0, ov_r 1]) (pc2 := 291) b_26_289_2 rfl rfl ?_
                                refine ov_putf (x := 0) d_26_291 fl_Tape_34 (zb_1 I401) (zs_1 I401) rfl nk_0 rfl ?_
                                have I465 := up_1_2 (x := 0) I401 (by omega) (hw 1 (by decide +kernel))
                                refine ov_blk (ls2 := [(0, ov_r 1)]) (st2 := [ov_r 1]) (pc2 := 295) b_26_294_1 rfl rfl ?_
                                refine ov_getf (v := ov_i (h400 1 7)) d_26_295 fl_Tape_21 (zb_1 I465) (zs_1 I465) rfl ?_
                                refine ov_blk (ls2 := [(0, ov_r 1)]) (st2 := [ov_r 1, ov_i (h400 1 7)]) (pc2 := 299) b_26_298_1 rfl rfl ?_
                                refine ov_getf (v := ov_i (h400 1 1)) d_26_299 fl_Tape_17 (zb_1 I465) (zs_1 I465) rfl ?_
                                refine ov_icge (tgt := 349) d_26_302 (by decide) (by omega) (by omega) (fun c468 => ?_) (fun c468 => ?_)
                                · skip
                                  exact ov_retv (st := []) d_26_349 rfl ⟨rfl, I465, (by show (h400 3 3) = (h 3 3) ∧ (h400 36 7) = (h 36 7) ∧ (h400 1 1) = (h 1 1) ∧ (h400 90 2) = (h 90 2) ∧ (h400 0 10) = (h 0 10) ∧ (h400 0 11) = (h 0 11) ∧ (h400 0 12) = (h 0 12) ∧ (h400 0 13) = (h 0 13) ∧ (h400 3 1) = (h 3 1) ∧ (h400 36 8) = (h 36 8) ∧ (h400 46 3) = (h 46 3) ∧ (h400 46 4) = (h 46 4) ∧ (h400 49 4) = (h 49 4) ∧ (h400 49 5) = (h 49 5) ∧ (h400 64 0) = (h 64 0) ∧ (h400 76 0) = (h 76 0); omega)⟩
                                · skip
                                  refine ov_blk (ls2 := [(0, ov_r 1)]) (st2 := [ov_r 1, ov_r 1]) (pc2 := 307) b_26_305_2 rfl rfl ?_
                                  refine ov_getf (v := ov_r 2) d_26_307 fl_Tape_9 (zb_1 I465) (zs_1 I465) (congrArg ov_r (rg_1_0 I465)) ?_
                                  refine ov_blk (ls2 := [(0, ov_r 1)]) (st2 := [ov_r 1, ov_r 2, ov_r 1]) (pc2 := 311) b_26_310_1 rfl rfl ?_
                                  refine ov_getf (v := ov_i (h400 1 7)) d_26_311 fl_Tape_21 (zb_1 I465) (zs_1 I465) rfl ?_
                                  refine ov_cald d_26_314 (zb_2 I465) (zs_2 I465) (by omega) ?_
                                  show ov_R u d ov_m26 315 [(0, ov_r 1)] [ov_i (h400 2 (h400 1 7)), ov_r 1] z399 (ov_up h400 1 2 0) (P_Tape_advance_1 F z h)
                                  refine ov_putf (x := (h400 2 (h400 1 7))) d_26_315 fl_Tape_40 (zb_1 I465) (zs_1 I465) rfl (nk_4 (by omega)) rfl ?_
                                  have I471 := up_1_5 (x := (h400 2 (h400 1 7))) I465 (by omega) (hw 1 (by decide +kernel))
                                  refine ov_blk (ls2 := [(0, ov_r 1)]) (st2 := [ov_r 1]) (pc2 := 319) b_26_318_1 rfl rfl ?_
                                  refine ov_ldcT d_26_319 rfl U.2.2 ?_
                                  refine ov_blk (ls2 := [(0, ov_r 1)]) (st2 := [ov_r 1, ov_r (-3), ov_r 1]) (pc2 := 322) b_26_321_1 rfl rfl ?_
                                  refine ov_getf (v := ov_i (h400 2 (h400 1 7))) d_26_322 fl_Tape_40 (zb_1 I471) (zs_1 I471) rfl ?_
                                  refine ov_cVS (as := [ov_i (h400 2 (h400 1 7))]) (st := [ov_r 1]) (d2 := d - 1) d_26_325 lk_Tape_46 rfl (Nat.le_of_ble_eq_true rfl) U.2.2 rfl (by omega) (c_String_indexOf_II_m3 (d - 1) (by omega) U I471 (h400 2 (h400 1 7)) (by omega)) ?_
                                  rintro _ _ _ ⟨v473, rfl, rfl, rfl, f472⟩
                                  show ov_R u d ov_m26 328 [(0, ov_r 1)] [ov_i v473, ov_r 1] z399 (ov_up (ov_up h400 1 2 0) 1 5 (h400 2 (h400 1 7))) (P_Tape_advance_1 F z h)
                                  have f474 : -1 ≤ v473 ∧ v473 ≤ 8 := f472
                                  clear f472
                                  refine ov_iflt (tgt := 335) d_26_328 (by decide) (by omega) (fun c475 => ?_) (fun c475 => ?_)
                                  · skip
                                    refine ov_blk (ls2 := [(0, ov_r 1)]) (st2 := [ov_i 1, ov_r 1]) (pc2 := 336) b_26_335_1 rfl rfl ?_
                                    refine ov_putf (x := 1) d_26_336 fl_Tape_34 (zb_1 I471) (zs_1 I471) rfl nk_0 rfl ?_
                                    have I476 := up_1_2 (x := 1) I471 (by omega) (hw 1 (by decide +kernel))
                                    refine ov_blk (ls2 := [(0, ov_r 1)]) (st2 := [ov_r 1, ov_r 1]) (pc2 := 341) b_26_339_2 rfl rfl ?_
                                    refine ov_getf (v := ov_i (h400 1 7)) d_26_341 fl_Tape_21 (zb_1 I476) (zs_1 I476) rfl ?_
                                    refine ov_blk (ls2 := [(0, ov_r 1)]) (st2 := [ov_i ((h400 1 7) + 1), ov_r 1]) (pc2 := 346) b_26_344_2 rfl rfl ?_
                                    refine ov_putf (x := ((h400 1 7) + 1)) d_26_346 fl_Tape_21 (zb_1 I476) (zs_1 I476) rfl nk_0 rfl ?_
                                    have I478 := up_1_7 (x := ((h400 1 7) + 1)) I476 (by omega) (hw 1 (by decide +kernel))
                                    exact ov_retv (st := []) d_26_349 rfl ⟨rfl, I478, (by show (h400 3 3) = (h 3 3) ∧ (h400 36 7) = (h 36 7) ∧ (h400 1 1) = (h 1 1) ∧ (h400 90 2) = (h 90 2) ∧ (h400 0 10) = (h 0 10) ∧ (h400 0 11) = (h 0 11) ∧ (h400 0 12) = (h 0 12) ∧ (h400 0 13) = (h 0 13) ∧ (h400 3 1) = (h 3 1) ∧ (h400 36 8) = (h 36 8) ∧ (h400 46 3) = (h 46 3) ∧ (h400 46 4) = (h 46 4) ∧ (h400 49 4) = (h 49 4) ∧ (h400 49 5) = (h 49 5) ∧ (h400 64 0) = (h 64 0) ∧ (h400 76 0) = (h 76 0); omega)⟩
                                  · skip
                                    refine ov_blk (ls2 := [(0, ov_r 1)]) (st2 := [ov_i 4, ov_r 1]) (pc2 := 332) b_26_331_1 rfl rfl ?_
                                    refine ov_goto (tgt := 336) d_26_332 (by decide) ?_
                                    refine ov_putf (x := 4) d_26_336 fl_Tape_34 (zb_1 I471) (zs_1 I471) rfl nk_0 rfl ?_
                                    have I479 := up_1_2 (x := 4) I471 (by omega) (hw 1 (by decide +kernel))
                                    refine ov_blk (ls2 := [(0, ov_r 1)]) (st2 := [ov_r 1, ov_r 1]) (pc2 := 341) b_26_339_2 rfl rfl ?_
                                    refine ov_getf (v := ov_i (h400 1 7)) d_26_341 fl_Tape_21 (zb_1 I479) (zs_1 I479) rfl ?_
                                    refine ov_blk (ls2 := [(0, ov_r 1)]) (st2 := [ov_i ((h400 1 7) + 1), ov_r 1]) (pc2 := 346) b_26_344_2 rfl rfl ?_
                                    refine ov_putf (x := ((h400 1 7) + 1)) d_26_346 fl_Tape_21 (zb_1 I479) (zs_1 I479) rfl nk_0 rfl ?_
                                    have I481 := up_1_7 (x := ((h400 1 7) + 1)) I479 (by omega) (hw 1 (by decide +kernel))
                                    exact ov_retv (st := []) d_26_349 rfl ⟨rfl, I481, (by show (h400 3 3) = (h 3 3) ∧ (h400 36 7) = (h 36 7) ∧ (h400 1 1) = (h 1 1) ∧ (h400 90 2) = (h 90 2) ∧ (h400 0 10) = (h 0 10) ∧ (h400 0 11) = (h 0 11) ∧ (h400 0 12) = (h 0 12) ∧ (h400 0 13) = (h 0 13) ∧ (h400 3 1) = (h 3 1) ∧ (h400 36 8) = (h 36 8) ∧ (h400 46 3) = (h 46 3) ∧ (h400 46 4) = (h 46 4) ∧ (h400 49 4) = (h 49 4) ∧ (h400 49 5) = (h 49 5) ∧ (h400 64 0) = (h 64 0) ∧ (h400 76 0) = (h 76 0); omega)⟩
                              · skip
                                refine ov_blk (ls2 := [(0, ov_r 1)]) (st2 := [ov_r 1, ov_r 1]) (pc2 := 268) b_26_266_2 rfl rfl ?_
                                refine ov_getf (v := ov_i (h400 1 7)) d_26_268 fl_Tape_21 (zb_1 I401) (zs_1 I401) rfl ?_
                                refine ov_blk (ls2 := [(0, ov_r 1)]) (st2 := [ov_r 1, ov_i (h400 1 7), ov_r 1]) (pc2 := 272) b_26_271_1 rfl rfl ?_
                                refine ov_getf (v := ov_i (h400 1 3)) d_26_272 fl_Tape_27 (zb_1 I401) (zs_1 I401) rfl ?_
                                refine ov_blk (ls2 := [(0, ov_r 1)]) (st2 := [ov_i 4, ov_i ((h400 1 7) - (h400 1 3)), ov_r 1]) (pc2 := 277) b_26_275_2 rfl rfl ?_
                                refine ov_icle (tgt := 284) d_26_277 (by decide) (by omega) (by omega) (fun c484 => ?_) (fun c484 => ?_)
                                · skip
                                  refine ov_blk (ls2 := [(0, ov_r 1)]) (st2 := [ov_i 3, ov_r 1]) (pc2 := 285) b_26_284_1 rfl rfl ?_
                                  refine ov_putf (x := 3) d_26_285 fl_Tape_34 (zb_1 I401) (zs_1 I401) rfl nk_0 rfl ?_
                                  have I485 := up_1_2 (x := 3) I401 (by omega) (hw 1 (by decide +kernel))
                                  exact ov_retv (st := []) d_26_288 rfl ⟨rfl, I485, (by show (h400 3 3) = (h 3 3) ∧ (h400 36 7) = (h 36 7) ∧ (h400 1 1) = (h 1 1) ∧ (h400 90 2) = (h 90 2) ∧ (h400 0 10) = (h 0 10) ∧ (h400 0 11) = (h 0 11) ∧ (h400 0 12) = (h 0 12) ∧ (h400 0 13) = (h 0 13) ∧ (h400 3 1) = (h 3 1) ∧ (h400 36 8) = (h 36 8) ∧ (h400 46 3) = (h 46 3) ∧ (h400 46 4) = (h 46 4) ∧ (h400 49 4) = (h 49 4) ∧ (h400 49 5) = (h 49 5) ∧ (h400 64 0) = (h 64 0) ∧ (h400 76 0) = (h 76 0); omega)⟩
                                · skip
                                  refine ov_blk (ls2 := [(0, ov_r 1)]) (st2 := [ov_i 1, ov_r 1]) (pc2 := 281) b_26_280_1 rfl rfl ?_
                                  refine ov_goto (tgt := 285) d_26_281 (by decide) ?_
                                  refine ov_putf (x := 1) d_26_285 fl_Tape_34 (zb_1 I401) (zs_1 I401) rfl nk_0 rfl ?_
                                  have I486 := up_1_2 (x := 1) I401 (by omega) (hw 1 (by decide +kernel))
                                  exact ov_retv (st := []) d_26_288 rfl ⟨rfl, I486, (by show (h400 3 3) = (h 3 3) ∧ (h400 36 7) = (h 36 7) ∧ (h400 1 1) = (h 1 1) ∧ (h400 90 2) = (h 90 2) ∧ (h400 0 10) = (h 0 10) ∧ (h400 0 11) = (h 0 11) ∧ (h400 0 12) = (h 0 12) ∧ (h400 0 13) = (h 0 13) ∧ (h400 3 1) = (h 3 1) ∧ (h400 36 8) = (h 36 8) ∧ (h400 46 3) = (h 46 3) ∧ (h400 46 4) = (h 46 4) ∧ (h400 49 4) = (h 49 4) ∧ (h400 49 5) = (h 49 5) ∧ (h400 64 0) = (h 64 0) ∧ (h400 76 0) = (h 76 0); omega)⟩
                            · skip
                              refine ov_blk (ls2 := [(0, ov_r 1)]) (st2 := [ov_r 1, ov_r 1]) (pc2 := 220) b_26_218_2 rfl rfl ?_
                              refine ov_getf (v := ov_i (h400 1 4)) d_26_220 fl_Tape_37 (zb_1 I401) (zs_1 I401) rfl ?_
                              have g487 := rg_1_4 I401
                              refine ov_blk (ls2 := [(0, ov_r 1)]) (st2 := [ov_i ((h400 1 4) * 10), ov_r 1]) (pc2 := 226) b_26_223_2 rfl rfl ?_
                              refine ov_hav (fun w488 gw488 => ?_)
                              refine ov_blk (ls2 := [(0, ov_r 1)]) (st2 := [ov_r 1, ov_i w488, ov_r 1]) (pc2 := 227) b_26_226_1 rfl rfl ?_
                              refine ov_getf (v := ov_r 2) d_26_227 fl_Tape_9 (zb_1 I401) (zs_1 I401) (congrArg ov_r (rg_1_0 I401)) ?_
                              refine ov_blk (ls2 := [(0, ov_r 1)]) (st2 := [ov_r 1, ov_r 2, ov_i w488, ov_r 1]) (pc2 := 231) b_26_230_1 rfl rfl ?_
                              refine ov_getf (v := ov_i (h400 1 7)) d_26_231 fl_Tape_21 (zb_1 I401) (zs_1 I401) rfl ?_
                              refine ov_cald d_26_234 (zb_2 I401) (zs_2 I401) (by omega) ?_
                              refine ov_blk (ls2 := [(0, ov_r 1)]) (st2 := [ov_i (w488 + (h400 2 (h400 1 7))), ov_r 1]) (pc2 := 236) b_26_235_1 rfl rfl ?_
                              refine ov_hav (fun w491 gw491 => ?_)
                              refine ov_blk (ls2 := [(0, ov_r 1)]) (st2 := [ov_i (w491 - 48), ov_r 1]) (pc2 := 239) b_26_236_2 rfl rfl ?_
                              refine ov_hav (fun w492 gw492 => ?_)
                              refine ov_putf (x := w492) d_26_239 fl_Tape_37 (zb_1 I401) (zs_1 I401) rfl nk_0 rfl ?_
                              have I493 := up_1_4 (x := w492) I401 (by omega) (hw 1 (by decide +kernel))
                              refine ov_blk (ls2 := [(0, ov_r 1)]) (st2 := [ov_r 1, ov_r 1]) (pc2 := 244) b_26_242_2 rfl rfl ?_
                              refine ov_getf (v := ov_i (h400 1 7)) d_26_244 fl_Tape_21 (zb_1 I493) (zs_1 I493) rfl ?_
                              refine ov_blk (ls2 := [(0, ov_r 1)]) (st2 := [ov_i ((h400 1 7) + 1), ov_r 1]) (pc2 := 249) b_26_247_2 rfl rfl ?_
                              refine ov_putf (x := ((h400 1 7) + 1)) d_26_249 fl_Tape_21 (zb_1 I493) (zs_1 I493) rfl nk_0 rfl ?_
                              have I495 := up_1_7 (x := ((h400 1 7) + 1)) I493 (by omega) (hw 1 (by decide +kernel))
                              refine ov_goto (tgt := 179) d_26_252 (by decide) ?_
                              exact ih396  _ _ I495 (by show (h400 3 3) = (h 3 3) ∧ 0 ≤ ((h400 1 7) + 1) ∧ ((h400 1 7) + 1) ≤ 1000 ∧ (h400 36 7) = (h 36 7) ∧ (h400 1 1) = (h 1 1) ∧ (h400 90 2) = (h 90 2) ∧ (h400 0 10) = (h 0 10) ∧ (h400 0 11) = (h 0 11) ∧ (h400 0 12) = (h 0 12) ∧ (h400 0 13) = (h 0 13) ∧ (h400 3 1) = (h 3 1) ∧ (h400 36 8) = (h 36 8) ∧ (h400 46 3) = (h 46 3) ∧ (h400 46 4) = (h 46 4) ∧ (h400 49 4) = (h 49 4) ∧ (h400 49 5) = (h 49 5) ∧ (h400 64 0) = (h 64 0) ∧ (h400 76 0) = (h 76 0); omega) (by show 1000 - ((h400 1 7) + 1) < _; omega)
                    exact L398 1001  _ _ I394 (by show (h385 3 3) = (h 3 3) ∧ 0 ≤ (h385 1 7) ∧ (h385 1 7) ≤ 1000 ∧ (h385 36 7) = (h 36 7) ∧ (h385 1 1) = (h 1 1) ∧ (h385 90 2) = (h 90 2) ∧ (h385 0 10) = (h 0 10) ∧ (h385 0 11) = (h 0 11) ∧ (h385 0 12) = (h 0 12) ∧ (h385 0 13) = (h 0 13) ∧ (h385 3 1) = (h 3 1) ∧ (h385 36 8) = (h 36 8) ∧ (h385 46 3) = (h 46 3) ∧ (h385 46 4) = (h 46 4) ∧ (h385 49 4) = (h 49 4) ∧ (h385 49 5) = (h 49 5) ∧ (h385 64 0) = (h 64 0) ∧ (h385 76 0) = (h 76 0); omega) (by show 1000 - (h385 1 7) < _; omega)
                  · skip
                    refine ov_blk (ls2 := [(0, ov_r 1)]) (st2 := [ov_r 1, ov_r 1]) (pc2 := 152) b_26_150_2 rfl rfl ?_
                    refine ov_getf (v := ov_i (h385 1 7)) d_26_152 fl_Tape_21 (zb_1 I386) (zs_1 I386) rfl ?_
                    refine ov_blk (ls2 := [(0, ov_r 1)]) (st2 := [ov_r 1, ov_i (h385 1 7), ov_r 1]) (pc2 := 156) b_26_155_1 rfl rfl ?_
                    refine ov_getf (v := ov_i (h385 1 3)) d_26_156 fl_Tape_27 (zb_1 I386) (zs_1 I386) rfl ?_
                    refine ov_blk (ls2 := [(0, ov_r 1)]) (st2 := [ov_i 8, ov_i ((h385 1 7) - (h385 1 3)), ov_r 1]) (pc2 := 162) b_26_159_2 rfl rfl ?_
                    refine ov_icle (tgt := 169) d_26_162 (by decide) (by omega) (by omega) (fun c498 => ?_) (fun c498 => ?_)
                    · skip
                      refine ov_blk (ls2 := [(0, ov_r 1)]) (st2 := [ov_i 2, ov_r 1]) (pc2 := 170) b_26_169_1 rfl rfl ?_
                      refine ov_putf (x := 2) d_26_170 fl_Tape_34 (zb_1 I386) (zs_1 I386) rfl nk_0 rfl ?_
                      have I499 := up_1_2 (x := 2) I386 (by omega) (hw 1 (by decide +kernel))
                      exact ov_retv (st := []) d_26_173 rfl ⟨rfl, I499, (by show (h385 3 3) = (h 3 3) ∧ (h385 36 7) = (h 36 7) ∧ (h385 1 1) = (h 1 1) ∧ (h385 90 2) = (h 90 2) ∧ (h385 0 10) = (h 0 10) ∧ (h385 0 11) = (h 0 11) ∧ (h385 0 12) = (h 0 12) ∧ (h385 0 13) = (h 0 13) ∧ (h385 3 1) = (h 3 1) ∧ (h385 36 8) = (h 36 8) ∧ (h385 46 3) = (h 46 3) ∧ (h385 46 4) = (h 46 4) ∧ (h385 49 4) = (h 49 4) ∧ (h385 49 5) = (h 49 5) ∧ (h385 64 0) = (h 64 0) ∧ (h385 76 0) = (h 76 0); omega)⟩
                    · skip
                      refine ov_blk (ls2 := [(0, ov_r 1)]) (st2 := [ov_i 1, ov_r 1]) (pc2 := 166) b_26_165_1 rfl rfl ?_
                      refine ov_goto (tgt := 170) d_26_166 (by decide) ?_
                      refine ov_putf (x := 1) d_26_170 fl_Tape_34 (zb_1 I386) (zs_1 I386) rfl nk_0 rfl ?_
                      have I500 := up_1_2 (x := 1) I386 (by omega) (hw 1 (by decide +kernel))
                      exact ov_retv (st := []) d_26_173 rfl ⟨rfl, I500, (by show (h385 3 3) = (h 3 3) ∧ (h385 36 7) = (h 36 7) ∧ (h385 1 1) = (h 1 1) ∧ (h385 90 2) = (h 90 2) ∧ (h385 0 10) = (h 0 10) ∧ (h385 0 11) = (h 0 11) ∧ (h385 0 12) = (h 0 12) ∧ (h385 0 13) = (h 0 13) ∧ (h385 3 1) = (h 3 1) ∧ (h385 36 8) = (h 36 8) ∧ (h385 46 3) = (h 46 3) ∧ (h385 46 4) = (h 46 4) ∧ (h385 49 4) = (h 49 4) ∧ (h385 49 5) = (h 49 5) ∧ (h385 64 0) = (h 64 0) ∧ (h385 76 0) = (h 76 0); omega)⟩
                · skip
                  refine ov_blk (ls2 := [(0, ov_r 1)]) (st2 := [ov_r 1]) (pc2 := 77) b_26_76_1 rfl rfl ?_
                  refine ov_getf (v := ov_r 2) d_26_77 fl_Tape_9 (zb_1 I386) (zs_1 I386) (congrArg ov_r (rg_1_0 I386)) ?_
                  refine ov_blk (ls2 := [(0, ov_r 1)]) (st2 := [ov_r 1, ov_r 2]) (pc2 := 81) b_26_80_1 rfl rfl ?_
                  refine ov_getf (v := ov_i (h385 1 7)) d_26_81 fl_Tape_21 (zb_1 I386) (zs_1 I386) rfl ?_
                  refine ov_cald d_26_84 (zb_2 I386) (zs_2 I386) (by omega) ?_
                  have g502 := ra_2 I386 (h385 1 7)
                  refine ov_blk (ls2 := [(0, ov_r 1)]) (st2 := [ov_i 97, ov_i (h385 2 (h385 1 7))]) (pc2 := 87) b_26_85_1 rfl rfl ?_
                  refine ov_iclt (tgt := 139) d_26_87 (by decide) (by omega) (by omega) (fun c503 => ?_) (fun c503 => ?_)
                  · skip
                    refine ov_blk (ls2 := [(0, ov_r 1)]) (st2 := [ov_r 1]) (pc2 := 140) b_26_139_1 rfl rfl ?_
                    refine ov_getf (v := ov_i (h385 1 7)) d_26_140 fl_Tape_21 (zb_1 I386) (zs_1 I386) rfl ?_
                    refine ov_blk (ls2 := [(0, ov_r 1)]) (st2 := [ov_r 1, ov_i (h385 1 7)]) (pc2 := 144) b_26_143_1 rfl rfl ?_
                    refine ov_getf (v := ov_i (h385 1 3)) d_26_144 fl_Tape_27 (zb_1 I386) (zs_1 I386) rfl ?_
                    have g505 := rg_1_3 I386
                    refine ov_icle (tgt := 174) d_26_147 (by decide) (by omega) (by omega) (fun c506 => ?_) (fun c506 => ?_)
                    · skip
                      refine ov_blk (ls2 := [(0, ov_r 1)]) (st2 := [ov_i 0, ov_r 1]) (pc2 := 176) b_26_174_2 rfl rfl ?_
                      refine ov_putf (x := 0) d_26_176 fl_Tape_37 (zb_1 I386) (zs_1 I386) rfl nk_0 rfl ?_
                      have I507 := up_1_4 (x := 0) I386 (by omega) (hw 1 (by decide +kernel))
                      have L511 : ∀ (n508 : Nat) (z512 : ov_Z) (h513 : ov_H) (I514 : ov_I F z512 h513) (q510 : (h513 3 3) = (h 3 3) ∧ 0 ≤ (h513 1 7) ∧ (h513 1 7) ≤ 1000 ∧ (h513 36 7) = (h 36 7) ∧ (h513 1 1) = (h 1 1) ∧ (h513 90 2) = (h 90 2) ∧ (h513 0 10) = (h 0 10) ∧ (h513 0 11) = (h 0 11) ∧ (h513 0 12) = (h 0 12) ∧ (h513 0 13) = (h 0 13) ∧ (h513 3 1) = (h 3 1) ∧ (h513 36 8) = (h 36 8) ∧ (h513 46 3) = (h 46 3) ∧ (h513 46 4) = (h 46 4) ∧ (h513 49 4) = (h 49 4) ∧ (h513 49 5) = (h 49 5) ∧ (h513 64 0) = (h 64 0) ∧ (h513 76 0) = (h 76 0)), 1000 - (h513 1 7) < (n508 : Int) → ov_R u d ov_m26 179 [(0, ov_r 1)] [] z512 h513 (P_Tape_advance_1 F z h) := by
                        intro n508
                        induction n508 with
                        | zero =>
                          intro  z512 h513 I514 q510 hn515
                          exact absurd hn515 (by omega)
                        | succ n508 ih509 =>
                          intro  z512 h513 I514 q510 hn515
                          refine ov_blk (ls2 := [(0, ov_r 1)]) (st2 := [ov_r 1]) (pc2 := 180) b_26_179_1 rfl rfl ?_
                          refine ov_getf (v := ov_i (h513 1 7)) d_26_180 fl_Tape_21 (zb_1 I514) (zs_1 I514) rfl ?_
                          have g516 := rg_1_7 I514
                          refine ov_blk (ls2 := [(0, ov_r 1)]) (st2 := [ov_r 1, ov_i (h513 1 7)]) (pc2 := 184) b_26_183_1 rfl rfl ?_
                          refine ov_getf (v := ov_i (h513 1 1)) d_26_184 fl_Tape_17 (zb_1 I514) (zs_1 I514) rfl ?_
                          have g517 := rg_1_1 I514
                          refine ov_icge (tgt := 255) d_26_187 (by decide) (by omega) (by omega) (fun c518 => ?_) (fun c518 => ?_)
                          · skip
                            refine ov_blk (ls2 := [(0, ov_r 1)]) (st2 := [ov_r 1]) (pc2 := 256) b_26_255_1 rfl rfl ?_
                            refine ov_getf (v := ov_i (h513 1 7)) d_26_256 fl_Tape_21 (zb_1 I514) (zs_1 I514) rfl ?_
                            refine ov_blk (ls2 := [(0, ov_r 1)]) (st2 := [ov_r 1, ov_i (h513 1 7)]) (pc2 := 260) b_26_259_1 rfl rfl ?_
                            refine ov_getf (v := ov_i (h513 1 3)) d_26_260 fl_Tape_27 (zb_1 I514) (zs_1 I514) rfl ?_
                            have g520 := rg_1_3 I514
                            refine ov_icle (tgt := 289) d_26_263 (by decide) (by omega) (by omega) (fun c521 => ?_) (fun c521 => ?_)
                            · skip
                              refine ov_blk (ls2 := [(0, ov_r 1)]) (st2 := [ov_i 0, ov_r 1]) (pc2 := 291) b_26_289_2 rfl rfl ?_
                              refine ov_putf (x := 0) d_26_291 fl_Tape_34 (zb_1 I514) (zs_1 I514) rfl nk_0 rfl ?_
                              have I522 := up_1_2 (x := 0) I514 (by omega) (hw 1 (by decide +kernel))
                              refine ov_blk (ls2 := [(0, ov_r 1)]) (st2 := [ov_r 1]) (pc2 := 295) b_26_294_1 rfl rfl ?_
                              refine ov_getf (v := ov_i (h513 1 7)) d_26_295 fl_Tape_21 (zb_1 I522) (zs_1 I522) rfl ?_
                              refine ov_blk (ls2 := [(0, ov_r 1)]) (st2 := [ov_r 1, ov_i (h513 1 7)]) (pc2 := 299) b_26_298_1 rfl rfl ?_
                              refine ov_getf (v := ov_i (h513 1 1)) d_26_299 fl_Tape_17 (zb_1 I522) (zs_1 I522) rfl ?_
                              refine ov_icge (tgt := 349) d_26_302 (by decide) (by omega) (by omega) (fun c525 => ?_) (fun c525 => ?_)
                              · skip
                                exact ov_retv (st := []) d_26_349 rfl ⟨rfl, I522, (by show (h513 3 3) = (h 3 3) ∧ (h513 36 7) = (h 36 7) ∧ (h513 1 1) = (h 1 1) ∧ (h513 90 2) = (h 90 2) ∧ (h513 0 10) = (h 0 10) ∧ (h513 0 11) = (h 0 11) ∧ (h513 0 12) = (h 0 12) ∧ (h513 0 13) = (h 0 13) ∧ (h513 3 1) = (h 3 1) ∧ (h513 36 8) = (h 36 8) ∧ (h513 46 3) = (h 46 3) ∧ (h513 46 4) = (h 46 4) ∧ (h513 49 4) = (h 49 4) ∧ (h513 49 5) = (h 49 5) ∧ (h513 64 0) = (h 64 0) ∧ (h513 76 0) = (h 76 0); omega)⟩
                              · skip
                                refine ov_blk (ls2 := [(0, ov_r 1)]) (st2 := [ov_r 1, ov_r 1]) (pc2 := 307) b_26_305_2 rfl rfl ?_
                                refine ov_getf (v := ov_r 2) d_26_307 fl_Tape_9 (zb_1 I522) (zs_1 I522) (congrArg ov_r (rg_1_0 I522)) ?_
                                refine ov_blk (ls2 := [(0, ov_r 1)]) (st2 := [ov_r 1, ov_r 2, ov_r 1]) (pc2 := 311) b_26_310_1 rfl rfl ?_
                                refine ov_getf (v := ov_i (h513 1 7)) d_26_311 fl_Tape_21 (zb_1 I522) (zs_1 I522) rfl ?_
                                refine ov_cald d_26_314 (zb_2 I522) (zs_2 I522) (by omega) ?_
                                show ov_R u d ov_m26 315 [(0, ov_r 1)] [ov_i (h513 2 (h513 1 7)), ov_r 1] z512 (ov_up h513 1 2 0) (P_Tape_advance_1 F z h)
                                have g527 := ra_2 I514 (h513 1 7)
                                refine ov_putf (x := (h513 2 (h513 1 7))) d_26_315 fl_Tape_40 (zb_1 I522) (zs_1 I522) rfl (nk_4 (by omega)) rfl ?_
                                have I528 := up_1_5 (x := (h513 2 (h513 1 7))) I522 (by omega) (hw 1 (by decide +kernel))
                                refine ov_blk (ls2 := [(0, ov_r 1)]) (st2 := [ov_r 1]) (pc2 := 319) b_26_318_1 rfl rfl ?_
                                refine ov_ldcT d_26_319 rfl U.2.2 ?_
                                refine ov_blk (ls2 := [(0, ov_r 1)]) (st2 := [ov_r 1, ov_r (-3), ov_r 1]) (pc2 := 322) b_26_321_1 rfl rfl ?_
                                refine ov_getf (v := ov_i (h513 2 (h513 1 7))) d_26_322 fl_Tape_40 (zb_1 I528) (zs_1 I528) rfl ?_
                                refine ov_cVS (as := [ov_i (h513 2 (h513 1 7))]) (st := [ov_r 1]) (d2 := d - 1) d_26_325 lk_Tape_46 rfl (Nat.le_of_ble_eq_true rfl) U.2.2 rfl (by omega) (c_String_indexOf_II_m3 (d - 1) (by omega) U I528 (h513 2 (h513 1 7)) (by omega)) ?_
                                rintro _ _ _ ⟨v530, rfl, rfl, rfl, f529⟩
                                show ov_R u d ov_m26 328 [(0, ov_r 1)] [ov_i v530, ov_r 1] z512 (ov_up (ov_up h513 1 2 0) 1 5 (h513 2 (h513 1 7))) (P_Tape_advance_1 F z h)
                                have f531 : -1 ≤ v530 ∧ v530 ≤ 8 := f529
                                clear f529
                                refine ov_iflt (tgt := 335) d_26_328 (by decide) (by omega) (fun c532 => ?_) (fun c532 => ?_)
                                · skip
                                  refine ov_blk (ls2 := [(0, ov_r 1)]) (st2 := [ov_i 1, ov_r 1]) (pc2 := 336) b_26_335_1 rfl rfl ?_
                                  refine ov_putf (x := 1) d_26_336 fl_Tape_34 (zb_1 I528) (zs_1 I528) rfl nk_0 rfl ?_
                                  have I533 := up_1_2 (x := 1) I528 (by omega) (hw 1 (by decide +kernel))
                                  refine ov_blk (ls2 := [(0, ov_r 1)]) (st2 := [ov_r 1, ov_r 1]) (pc2 := 341) b_26_339_2 rfl rfl ?_
                                  refine ov_getf (v := ov_i (h513 1 7)) d_26_341 fl_Tape_21 (zb_1 I533) (zs_1 I533) rfl ?_
                                  refine ov_blk (ls2 := [(0, ov_r 1)]) (st2 := [ov_i ((h513 1 7) + 1), ov_r 1]) (pc2 := 346) b_26_344_2 rfl rfl ?_
                                  refine ov_putf (x := ((h513 1 7) + 1)) d_26_346 fl_Tape_21 (zb_1 I533) (zs_1 I533) rfl nk_0 rfl ?_
                                  have I535 := up_1_7 (x := ((h513 1 7) + 1)) I533 (by omega) (hw 1 (by decide +kernel))
                                  exact ov_retv (st := []) d_26_349 rfl ⟨rfl, I535, (by show (h513 3 3) = (h 3 3) ∧ (h513 36 7) = (h 36 7) ∧ (h513 1 1) = (h 1 1) ∧ (h513 90 2) = (h 90 2) ∧ (h513 0 10) = (h 0 10) ∧ (h513 0 11) = (h 0 11) ∧ (h513 0 12) = (h 0 12) ∧ (h513 0 13) = (h 0 13) ∧ (h513 3 1) = (h 3 1) ∧ (h513 36 8) = (h 36 8) ∧ (h513 46 3) = (h 46 3) ∧ (h513 46 4) = (h 46 4) ∧ (h513 49 4) = (h 49 4) ∧ (h513 49 5) = (h 49 5) ∧ (h513 64 0) = (h 64 0) ∧ (h513 76 0) = (h 76 0); omega)⟩
                                · skip
                                  refine ov_blk (ls2 := [(0, ov_r 1)]) (st2 := [ov_i 4, ov_r 1]) (pc2 := 332) b_26_331_1 rfl rfl ?_
                                  refine ov_goto (tgt := 336) d_26_332 (by decide) ?_
                                  refine ov_putf (x := 4) d_26_336 fl_Tape_34 (zb_1 I528) (zs_1 I528) rfl nk_0 rfl ?_
                                  have I536 := up_1_2 (x := 4) I528 (by omega) (hw 1 (by decide +kernel))
                                  refine ov_blk (ls2 := [(0, ov_r 1)]) (st2 := [ov_r 1, ov_r 1]) (pc2 := 341) b_26_339_2 rfl rfl ?_
                                  refine ov_getf (v := ov_i (h513 1 7)) d_26_341 fl_Tape_21 (zb_1 I536) (zs_1 I536) rfl ?_
                                  refine ov_blk (ls2 := [(0, ov_r 1)]) (st2 := [ov_i ((h513 1 7) + 1), ov_r 1]) (pc2 := 346) b_26_344_2 rfl rfl ?_
                                  refine ov_putf (x := ((h513 1 7) + 1)) d_26_346 fl_Tape_21 (zb_1 I536) (zs_1 I536) rfl nk_0 rfl ?_
                                  have I538 := up_1_7 (x := ((h513 1 7) + 1)) I536 (by omega) (hw 1 (by decide +kernel))
                                  exact ov_retv (st := []) d_26_349 rfl ⟨rfl, I538, (by show (h513 3 3) = (h 3 3) ∧ (h513 36 7) = (h 36 7) ∧ (h513 1 1) = (h 1 1) ∧ (h513 90 2) = (h 90 2) ∧ (h513 0 10) = (h 0 10) ∧ (h513 0 11) = (h 0 11) ∧ (h513 0 12) = (h 0 12) ∧ (h513 0 13) = (h 0 13) ∧ (h513 3 1) = (h 3 1) ∧ (h513 36 8) = (h 36 8) ∧ (h513 46 3) = (h 46 3) ∧ (h513 46 4) = (h 46 4) ∧ (h513 49 4) = (h 49 4) ∧ (h513 49 5) = (h 49 5) ∧ (h513 64 0) = (h 64 0) ∧ (h513 76 0) = (h 76 0); omega)⟩
                            · skip
                              refine ov_blk (ls2 := [(0, ov_r 1)]) (st2 := [ov_r 1, ov_r 1]) (pc2 := 268) b_26_266_2 rfl rfl ?_
                              refine ov_getf (v := ov_i (h513 1 7)) d_26_268 fl_Tape_21 (zb_1 I514) (zs_1 I514) rfl ?_
                              refine ov_blk (ls2 := [(0, ov_r 1)]) (st2 := [ov_r 1, ov_i (h513 1 7), ov_r 1]) (pc2 := 272) b_26_271_1 rfl rfl ?_
                              refine ov_getf (v := ov_i (h513 1 3)) d_26_272 fl_Tape_27 (zb_1 I514) (zs_1 I514) rfl ?_
                              refine ov_blk (ls2 := [(0, ov_r 1)]) (st2 := [ov_i 4, ov_i ((h513 1 7) - (h513 1 3)), ov_r 1]) (pc2 := 277) b_26_275_2 rfl rfl ?_
                              refine ov_icle (tgt := 284) d_26_277 (by decide) (by omega) (by omega) (fun c541 => ?_) (fun c541 => ?_)
                              · skip
                                refine ov_blk (ls2 := [(0, ov_r 1)]) (st2 := [ov_i 3, ov_r 1]) (pc2 := 285) b_26_284_1 rfl rfl ?_
                                refine ov_putf (x := 3) d_26_285 fl_Tape_34 (zb_1 I514) (zs_1 I514) rfl nk_0 rfl ?_
                                have I542 := up_1_2 (x := 3) I514 (by omega) (hw 1 (by decide +kernel))
                                exact ov_retv (st := []) d_26_288 rfl ⟨rfl, I542, (by show (h513 3 3) = (h 3 3) ∧ (h513 36 7) = (h 36 7) ∧ (h513 1 1) = (h 1 1) ∧ (h513 90 2) = (h 90 2) ∧ (h513 0 10) = (h 0 10) ∧ (h513 0 11) = (h 0 11) ∧ (h513 0 12) = (h 0 12) ∧ (h513 0 13) = (h 0 13) ∧ (h513 3 1) = (h 3 1) ∧ (h513 36 8) = (h 36 8) ∧ (h513 46 3) = (h 46 3) ∧ (h513 46 4) = (h 46 4) ∧ (h513 49 4) = (h 49 4) ∧ (h513 49 5) = (h 49 5) ∧ (h513 64 0) = (h 64 0) ∧ (h513 76 0) = (h 76 0); omega)⟩
                              · skip
                                refine ov_blk (ls2 := [(0, ov_r 1)]) (st2 := [ov_i 1, ov_r 1]) (pc2 := 281) b_26_280_1 rfl rfl ?_
                                refine ov_goto (tgt := 285) d_26_281 (by decide) ?_
                                refine ov_putf (x := 1) d_26_285 fl_Tape_34 (zb_1 I514) (zs_1 I514) rfl nk_0 rfl ?_
                                have I543 := up_1_2 (x := 1) I514 (by omega) (hw 1 (by decide +kernel))
                                exact ov_retv (st := []) d_26_288 rfl ⟨rfl, I543, (by show (h513 3 3) = (h 3 3) ∧ (h513 36 7) = (h 36 7) ∧ (h513 1 1) = (h 1 1) ∧ (h513 90 2) = (h 90 2) ∧ (h513 0 10) = (h 0 10) ∧ (h513 0 11) = (h 0 11) ∧ (h513 0 12) = (h 0 12) ∧ (h513 0 13) = (h 0 13) ∧ (h513 3 1) = (h 3 1) ∧ (h513 36 8) = (h 36 8) ∧ (h513 46 3) = (h 46 3) ∧ (h513 46 4) = (h 46 4) ∧ (h513 49 4) = (h 49 4) ∧ (h513 49 5) = (h 49 5) ∧ (h513 64 0) = (h 64 0) ∧ (h513 76 0) = (h 76 0); omega)⟩
                          · skip
                            refine ov_blk (ls2 := [(0, ov_r 1)]) (st2 := [ov_r 1]) (pc2 := 191) b_26_190_1 rfl rfl ?_
                            refine ov_getf (v := ov_r 2) d_26_191 fl_Tape_9 (zb_1 I514) (zs_1 I514) (congrArg ov_r (rg_1_0 I514)) ?_
                            refine ov_blk (ls2 := [(0, ov_r 1)]) (st2 := [ov_r 1, ov_r 2]) (pc2 := 195) b_26_194_1 rfl rfl ?_
                            refine ov_getf (v := ov_i (h513 1 7)) d_26_195 fl_Tape_21 (zb_1 I514) (zs_1 I514) rfl ?_
                            refine ov_cald d_26_198 (zb_2 I514) (zs_2 I514) (by omega) ?_
                            have g545 := ra_2 I514 (h513 1 7)
                            refine ov_blk (ls2 := [(0, ov_r 1)]) (st2 := [ov_i 48, ov_i (h513 2 (h513 1 7))]) (pc2 := 201) b_26_199_1 rfl rfl ?_
                            refine ov_iclt (tgt := 255) d_26_201 (by decide) (by omega) (by omega) (fun c546 => ?_) (fun c546 => ?_)
                            · skip
                              refine ov_blk (ls2 := [(0, ov_r 1)]) (st2 := [ov_r 1]) (pc2 := 256) b_26_255_1 rfl rfl ?_
                              refine ov_getf (v := ov_i (h513 1 7)) d_26_256 fl_Tape_21 (zb_1 I514) (zs_1 I514) rfl ?_
                              refine ov_blk (ls2 := [(0, ov_r 1)]) (st2 := [ov_r 1, ov_i (h513 1 7)]) (pc2 := 260) b_26_259_1 rfl rfl ?_
                              refine ov_getf (v := ov_i (h513 1 3)) d_26_260 fl_Tape_27 (zb_1 I514) (zs_1 I514) rfl ?_
                              have g548 := rg_1_3 I514
                              refine ov_icle (tgt := 289) d_26_263 (by decide) (by omega) (by omega) (fun c549 => ?_) (fun c549 => ?_)
                              · skip
                                refine ov_blk (ls2 := [(0, ov_r 1)]) (st2 := [ov_i 0, ov_r 1]) (pc2 := 291) b_26_289_2 rfl rfl ?_
                                refine ov_putf (x := 0) d_26_291 fl_Tape_34 (zb_1 I514) (zs_1 I514) rfl nk_0 rfl ?_
                                have I550 := up_1_2 (x := 0) I514 (by omega) (hw 1 (by decide +kernel))
                                refine ov_blk (ls2 := [(0, ov_r 1)]) (st2 := [ov_r 1]) (pc2 := 295) b_26_294_1 rfl rfl ?_
                                refine ov_getf (v := ov_i (h513 1 7)) d_26_295 fl_Tape_21 (zb_1 I550) (zs_1 I550) rfl ?_
                                refine ov_blk (ls2 := [(0, ov_r 1)]) (st2 := [ov_r 1, ov_i (h513 1 7)]) (pc2 := 299) b_26_298_1 rfl rfl ?_
                                refine ov_getf (v := ov_i (h513 1 1)) d_26_299 fl_Tape_17 (zb_1 I550) (zs_1 I550) rfl ?_
                                refine ov_icge (tgt := 349) d_26_302 (by decide) (by omega) (by omega) (fun c553 => ?_) (fun c553 => ?_)
                                · skip
                                  exact ov_retv (st := []) d_26_349 rfl ⟨rfl, I550, (by show (h513 3 3) = (h 3 3) ∧ (h513 36 7) = (h 36 7) ∧ (h513 1 1) = (h 1 1) ∧ (h513 90 2) = (h 90 2) ∧ (h513 0 10) = (h 0 10) ∧ (h513 0 11) = (h 0 11) ∧ (h513 0 12) = (h 0 12) ∧ (h513 0 13) = (h 0 13) ∧ (h513 3 1) = (h 3 1) ∧ (h513 36 8) = (h 36 8) ∧ (h513 46 3) = (h 46 3) ∧ (h513 46 4) = (h 46 4) ∧ (h513 49 4) = (h 49 4) ∧ (h513 49 5) = (h 49 5) ∧ (h513 64 0) = (h 64 0) ∧ (h513 76 0) = (h 76 0); omega)⟩
                                · skip
                                  refine ov_blk (ls2 := [(0, ov_r 1)]) (st2 := [ov_r 1, ov_r 1]) (pc2 := 307) b_26_305_2 rfl rfl ?_
                                  refine ov_getf (v := ov_r 2) d_26_307 fl_Tape_9 (zb_1 I550) (zs_1 I550) (congrArg ov_r (rg_1_0 I550)) ?_
                                  refine ov_blk (ls2 := [(0, ov_r 1)]) (st2 := [ov_r 1, ov_r 2, ov_r 1]) (pc2 := 311) b_26_310_1 rfl rfl ?_
                                  refine ov_getf (v := ov_i (h513 1 7)) d_26_311 fl_Tape_21 (zb_1 I550) (zs_1 I550) rfl ?_
                                  refine ov_cald d_26_314 (zb_2 I550) (zs_2 I550) (by omega) ?_
                                  show ov_R u d ov_m26 315 [(0, ov_r 1)] [ov_i (h513 2 (h513 1 7)), ov_r 1] z512 (ov_up h513 1 2 0) (P_Tape_advance_1 F z h)
                                  refine ov_putf (x := (h513 2 (h513 1 7))) d_26_315 fl_Tape_40 (zb_1 I550) (zs_1 I550) rfl (nk_4 (by omega)) rfl ?_
                                  have I556 := up_1_5 (x := (h513 2 (h513 1 7))) I550 (by omega) (hw 1 (by decide +kernel))
                                  refine ov_blk (ls2 := [(0, ov_r 1)]) (st2 := [ov_r 1]) (pc2 := 319) b_26_318_1 rfl rfl ?_
                                  refine ov_ldcT d_26_319 rfl U.2.2 ?_
                                  refine ov_blk (ls2 := [(0, ov_r 1)]) (st2 := [ov_r 1, ov_r (-3), ov_r 1]) (pc2 := 322) b_26_321_1 rfl rfl ?_
                                  refine ov_getf (v := ov_i (h513 2 (h513 1 7))) d_26_322 fl_Tape_40 (zb_1 I556) (zs_1 I556) rfl ?_
                                  refine ov_cVS (as := [ov_i (h513 2 (h513 1 7))]) (st := [ov_r 1]) (d2 := d - 1) d_26_325 lk_Tape_46 rfl (Nat.le_of_ble_eq_true rfl) U.2.2 rfl (by omega) (c_String_indexOf_II_m3 (d - 1) (by omega) U I556 (h513 2 (h513 1 7)) (by omega)) ?_
                                  rintro _ _ _ ⟨v558, rfl, rfl, rfl, f557⟩
                                  show ov_R u d ov_m26 328 [(0, ov_r 1)] [ov_i v558, ov_r 1] z512 (ov_up (ov_up h513 1 2 0) 1 5 (h513 2 (h513 1 7))) (P_Tape_advance_1 F z h)
                                  have f559 : -1 ≤ v558 ∧ v558 ≤ 8 := f557
                                  clear f557
                                  refine ov_iflt (tgt := 335) d_26_328 (by decide) (by omega) (fun c560 => ?_) (fun c560 => ?_)
                                  · skip
                                    refine ov_blk (ls2 := [(0, ov_r 1)]) (st2 := [ov_i 1, ov_r 1]) (pc2 := 336) b_26_335_1 rfl rfl ?_
                                    refine ov_putf (x := 1) d_26_336 fl_Tape_34 (zb_1 I556) (zs_1 I556) rfl nk_0 rfl ?_
                                    have I561 := up_1_2 (x := 1) I556 (by omega) (hw 1 (by decide +kernel))
                                    refine ov_blk (ls2 := [(0, ov_r 1)]) (st2 := [ov_r 1, ov_r 1]) (pc2 := 341) b_26_339_2 rfl rfl ?_
                                    refine ov_getf (v := ov_i (h513 1 7)) d_26_341 fl_Tape_21 (zb_1 I561) (zs_1 I561) rfl ?_
                                    refine ov_blk (ls2 := [(0, ov_r 1)]) (st2 := [ov_i ((h513 1 7) + 1), ov_r 1]) (pc2 := 346) b_26_344_2 rfl rfl ?_
                                    refine ov_putf (x := ((h513 1 7) + 1)) d_26_346 fl_Tape_21 (zb_1 I561) (zs_1 I561) rfl nk_0 rfl ?_
                                    have I563 := up_1_7 (x := ((h513 1 7) + 1)) I561 (by omega) (hw 1 (by decide +kernel))
                                    exact ov_retv (st := []) d_26_349 rfl ⟨rfl, I563, (by show (h513 3 3) = (h 3 3) ∧ (h513 36 7) = (h 36 7) ∧ (h513 1 1) = (h 1 1) ∧ (h513 90 2) = (h 90 2) ∧ (h513 0 10) = (h 0 10) ∧ (h513 0 11) = (h 0 11) ∧ (h513 0 12) = (h 0 12) ∧ (h513 0 13) = (h 0 13) ∧ (h513 3 1) = (h 3 1) ∧ (h513 36 8) = (h 36 8) ∧ (h513 46 3) = (h 46 3) ∧ (h513 46 4) = (h 46 4) ∧ (h513 49 4) = (h 49 4) ∧ (h513 49 5) = (h 49 5) ∧ (h513 64 0) = (h 64 0) ∧ (h513 76 0) = (h 76 0); omega)⟩
                                  · skip
                                    refine ov_blk (ls2 := [(0, ov_r 1)]) (st2 := [ov_i 4, ov_r 1]) (pc2 := 332) b_26_331_1 rfl rfl ?_
                                    refine ov_goto (tgt := 336) d_26_332 (by decide) ?_
                                    refine ov_putf (x := 4) d_26_336 fl_Tape_34 (zb_1 I556) (zs_1 I556) rfl nk_0 rfl ?_
                                    have I564 := up_1_2 (x := 4) I556 (by omega) (hw 1 (by decide +kernel))
                                    refine ov_blk (ls2 := [(0, ov_r 1)]) (st2 := [ov_r 1, ov_r 1]) (pc2 := 341) b_26_339_2 rfl rfl ?_
                                    refine ov_getf (v := ov_i (h513 1 7)) d_26_341 fl_Tape_21 (zb_1 I564) (zs_1 I564) rfl ?_
                                    refine ov_blk (ls2 := [(0, ov_r 1)]) (st2 := [ov_i ((h513 1 7) + 1), ov_r 1]) (pc2 := 346) b_26_344_2 rfl rfl ?_
                                    refine ov_putf (x := ((h513 1 7) + 1)) d_26_346 fl_Tape_21 (zb_1 I564) (zs_1 I564) rfl nk_0 rfl ?_
                                    have I566 := up_1_7 (x := ((h513 1 7) + 1)) I564 (by omega) (hw 1 (by decide +kernel))
                                    exact ov_retv (st := []) d_26_349 rfl ⟨rfl, I566, (by show (h513 3 3) = (h 3 3) ∧ (h513 36 7) = (h 36 7) ∧ (h513 1 1) = (h 1 1) ∧ (h513 90 2) = (h 90 2) ∧ (h513 0 10) = (h 0 10) ∧ (h513 0 11) = (h 0 11) ∧ (h513 0 12) = (h 0 12) ∧ (h513 0 13) = (h 0 13) ∧ (h513 3 1) = (h 3 1) ∧ (h513 36 8) = (h 36 8) ∧ (h513 46 3) = (h 46 3) ∧ (h513 46 4) = (h 46 4) ∧ (h513 49 4) = (h 49 4) ∧ (h513 49 5) = (h 49 5) ∧ (h513 64 0) = (h 64 0) ∧ (h513 76 0) = (h 76 0); omega)⟩
                              · skip
                                refine ov_blk (ls2 := [(0, ov_r 1)]) (st2 := [ov_r 1, ov_r 1]) (pc2 := 268) b_26_266_2 rfl rfl ?_
                                refine ov_getf (v := ov_i (h513 1 7)) d_26_268 fl_Tape_21 (zb_1 I514) (zs_1 I514) rfl ?_
                                refine ov_blk (ls2 := [(0, ov_r 1)]) (st2 := [ov_r 1, ov_i (h513 1 7), ov_r 1]) (pc2 := 272) b_26_271_1 rfl rfl ?_
                                refine ov_getf (v := ov_i (h513 1 3)) d_26_272 fl_Tape_27 (zb_1 I514) (zs_1 I514) rfl ?_
                                refine ov_blk (ls2 := [(0, ov_r 1)]) (st2 := [ov_i 4, ov_i ((h513 1 7) - (h513 1 3)), ov_r 1]) (pc2 := 277) b_26_275_2 rfl rfl ?_
                                refine ov_icle (tgt := 284) d_26_277 (by decide) (by omega) (by omega) (fun c569 => ?_) (fun c569 => ?_)
                                · skip
                                  refine ov_blk (ls2 := [(0, ov_r 1)]) (st2 := [ov_i 3, ov_r 1]) (pc2 := 285) b_26_284_1 rfl rfl ?_
                                  refine ov_putf (x := 3) d_26_285 fl_Tape_34 (zb_1 I514) (zs_1 I514) rfl nk_0 rfl ?_
                                  have I570 := up_1_2 (x := 3) I514 (by omega) (hw 1 (by decide +kernel))
                                  exact ov_retv (st := []) d_26_288 rfl ⟨rfl, I570, (by show (h513 3 3) = (h 3 3) ∧ (h513 36 7) = (h 36 7) ∧ (h513 1 1) = (h 1 1) ∧ (h513 90 2) = (h 90 2) ∧ (h513 0 10) = (h 0 10) ∧ (h513 0 11) = (h 0 11) ∧ (h513 0 12) = (h 0 12) ∧ (h513 0 13) = (h 0 13) ∧ (h513 3 1) = (h 3 1) ∧ (h513 36 8) = (h 36 8) ∧ (h513 46 3) = (h 46 3) ∧ (h513 46 4) = (h 46 4) ∧ (h513 49 4) = (h 49 4) ∧ (h513 49 5) = (h 49 5) ∧ (h513 64 0) = (h 64 0) ∧ (h513 76 0) = (h 76 0); omega)⟩
                                · skip
                                  refine ov_blk (ls2 := [(0, ov_r 1)]) (st2 := [ov_i 1, ov_r 1]) (pc2 := 281) b_26_280_1 rfl rfl ?_
                                  refine ov_goto (tgt := 285) d_26_281 (by decide) ?_
                                  refine ov_putf (x := 1) d_26_285 fl_Tape_34 (zb_1 I514) (zs_1 I514) rfl nk_0 rfl ?_
                                  have I571 := up_1_2 (x := 1) I514 (by omega) (hw 1 (by decide +kernel))
                                  exact ov_retv (st := []) d_26_288 rfl ⟨rfl, I571, (by show (h513 3 3) = (h 3 3) ∧ (h513 36 7) = (h 36 7) ∧ (h513 1 1) = (h 1 1) ∧ (h513 90 2) = (h 90 2) ∧ (h513 0 10) = (h 0 10) ∧ (h513 0 11) = (h 0 11) ∧ (h513 0 12) = (h 0 12) ∧ (h513 0 13) = (h 0 13) ∧ (h513 3 1) = (h 3 1) ∧ (h513 36 8) = (h 36 8) ∧ (h513 46 3) = (h 46 3) ∧ (h513 46 4) = (h 46 4) ∧ (h513 49 4) = (h 49 4) ∧ (h513 49 5) = (h 49 5) ∧ (h513 64 0) = (h 64 0) ∧ (h513 76 0) = (h 76 0); omega)⟩
                            · skip
                              refine ov_blk (ls2 := [(0, ov_r 1)]) (st2 := [ov_r 1]) (pc2 := 205) b_26_204_1 rfl rfl ?_
                              refine ov_getf (v := ov_r 2) d_26_205 fl_Tape_9 (zb_1 I514) (zs_1 I514) (congrArg ov_r (rg_1_0 I514)) ?_
                              refine ov_blk (ls2 := [(0, ov_r 1)]) (st2 := [ov_r 1, ov_r 2]) (pc2 := 209) b_26_208_1 rfl rfl ?_
                              refine ov_getf (v := ov_i (h513 1 7)) d_26_209 fl_Tape_21 (zb_1 I514) (zs_1 I514) rfl ?_
                              refine ov_cald d_26_212 (zb_2 I514) (zs_2 I514) (by omega) ?_
                              refine ov_blk (ls2 := [(0, ov_r 1)]) (st2 := [ov_i 57, ov_i (h513 2 (h513 1 7))]) (pc2 := 215) b_26_213_1 rfl rfl ?_
                              refine ov_icgt (tgt := 255) d_26_215 (by decide) (by omega) (by omega) (fun c574 => ?_) (fun c574 => ?_)
                              · skip
                                refine ov_blk (ls2 := [(0, ov_r 1)]) (st2 := [ov_r 1]) (pc2 := 256) b_26_255_1 rfl rfl ?_
                                refine ov_getf (v := ov_i (h513 1 7)) d_26_256 fl_Tape_21 (zb_1 I514) (zs_1 I514) rfl ?_
                                refine ov_blk (ls2 := [(0, ov_r 1)]) (st2 := [ov_r 1, ov_i (h513 1 7)]) (pc2 := 260) b_26_259_1 rfl rfl ?_
                                refine ov_getf (v := ov_i (h513 1 3)) d_26_260 fl_Tape_27 (zb_1 I514) (zs_1 I514) rfl ?_
                                have g576 := rg_1_3 I514
                                refine ov_icle (tgt := 289) d_26_263 (by decide) (by omega) (by omega) (fun c577 => ?_) (fun c577 => ?_)
                                · skip
                                  refine ov_blk (ls2 := [(0, ov_r 1)]) (st2 := [ov_i 0, ov_r 1]) (pc2 := 291) b_26_289_2 rfl rfl ?_
                                  refine ov_putf (x := 0) d_26_291 fl_Tape_34 (zb_1 I514) (zs_1 I514) rfl nk_0 rfl ?_
                                  have I578 := up_1_2 (x := 0) I514 (by omega) (hw 1 (by decide +kernel))
                                  refine ov_blk (ls2 := [(0, ov_r 1)]) (st2 := [ov_r 1]) (pc2 := 295) b_26_294_1 rfl rfl ?_
                                  refine ov_getf (v := ov_i (h513 1 7)) d_26_295 fl_Tape_21 (zb_1 I578) (zs_1 I578) rfl ?_
                                  refine ov_blk (ls2 := [(0, ov_r 1)]) (st2 := [ov_r 1, ov_i (h513 1 7)]) (pc2 := 299) b_26_298_1 rfl rfl ?_
                                  refine ov_getf (v := ov_i (h513 1 1)) d_26_299 fl_Tape_17 (zb_1 I578) (zs_1 I578) rfl ?_
                                  refine ov_icge (tgt := 349) d_26_302 (by decide) (by omega) (by omega) (fun c581 => ?_) (fun c581 => ?_)
                                  · skip
                                    exact ov_retv (st := []) d_26_349 rfl ⟨rfl, I578, (by show (h513 3 3) = (h 3 3) ∧ (h513 36 7) = (h 36 7) ∧ (h513 1 1) = (h 1 1) ∧ (h513 90 2) = (h 90 2) ∧ (h513 0 10) = (h 0 10) ∧ (h513 0 11) = (h 0 11) ∧ (h513 0 12) = (h 0 12) ∧ (h513 0 13) = (h 0 13) ∧ (h513 3 1) = (h 3 1) ∧ (h513 36 8) = (h 36 8) ∧ (h513 46 3) = (h 46 3) ∧ (h513 46 4) = (h 46 4) ∧ (h513 49 4) = (h 49 4) ∧ (h513 49 5) = (h 49 5) ∧ (h513 64 0) = (h 64 0) ∧ (h513 76 0) = (h 76 0); omega)⟩
                                  · skip
                                    refine ov_blk (ls2 := [(0, ov_r 1)]) (st2 := [ov_r 1, ov_r 1]) (pc2 := 307) b_26_305_2 rfl rfl ?_
                                    refine ov_getf (v := ov_r 2) d_26_307 fl_Tape_9 (zb_1 I578) (zs_1 I578) (congrArg ov_r (rg_1_0 I578)) ?_
                                    refine ov_blk (ls2 := [(0, ov_r 1)]) (st2 := [ov_r 1, ov_r 2, ov_r 1]) (pc2 := 311) b_26_310_1 rfl rfl ?_
                                    refine ov_getf (v := ov_i (h513 1 7)) d_26_311 fl_Tape_21 (zb_1 I578) (zs_1 I578) rfl ?_
                                    refine ov_cald d_26_314 (zb_2 I578) (zs_2 I578) (by omega) ?_
                                    show ov_R u d ov_m26 315 [(0, ov_r 1)] [ov_i (h513 2 (h513 1 7)), ov_r 1] z512 (ov_up h513 1 2 0) (P_Tape_advance_1 F z h)
                                    refine ov_putf (x := (h513 2 (h513 1 7))) d_26_315 fl_Tape_40 (zb_1 I578) (zs_1 I578) rfl (nk_4 (by omega)) rfl ?_
                                    have I584 := up_1_5 (x := (h513 2 (h513 1 7))) I578 (by omega) (hw 1 (by decide +kernel))
                                    refine ov_blk (ls2 := [(0, ov_r 1)]) (st2 := [ov_r 1]) (pc2 := 319) b_26_318_1 rfl rfl ?_
                                    refine ov_ldcT d_26_319 rfl U.2.2 ?_
                                    refine ov_blk (ls2 := [(0, ov_r 1)]) (st2 := [ov_r 1, ov_r (-3), ov_r 1]) (pc2 := 322) b_26_321_1 rfl rfl ?_
                                    refine ov_getf (v := ov_i (h513 2 (h513 1 7))) d_26_322 fl_Tape_40 (zb_1 I584) (zs_1 I584) rfl ?_
                                    refine ov_cVS (as := [ov_i (h513 2 (h513 1 7))]) (st := [ov_r 1]) (d2 := d - 1) d_26_325 lk_Tape_46 rfl (Nat.le_of_ble_eq_true rfl) U.2.2 rfl (by omega) (c_String_indexOf_II_m3 (d - 1) (by omega) U I584 (h513 2 (h513 1 7)) (by omega)) ?_
                                    rintro _ _ _ ⟨v586, rfl, rfl, rfl, f585⟩
                                    show ov_R u d ov_m26 328 [(0, ov_r 1)] [ov_i v586, ov_r 1] z512 (ov_up (ov_up h513 1 2 0) 1 5 (h513 2 (h513 1 7))) (P_Tape_advance_1 F z h)
                                    have f587 : -1 ≤ v586 ∧ v586 ≤ 8 := f585
                                    clear f585
                                    refine ov_iflt (tgt := 335) d_26_328 (by decide) (by omega) (fun c588 => ?_) (fun c588 => ?_)
                                    · skip
                                      refine ov_blk (ls2 := [(0, ov_r 1)]) (st2 := [ov_i 1, ov_r 1]) (pc2 := 336) b_26_335_1 rfl rfl ?_
                                      refine ov_putf (x := 1) d_26_336 fl_Tape_34 (zb_1 I584) (zs_1 I584) rfl nk_0 rfl ?_
                                      have I589 := up_1_2 (x := 1) I584 (by omega) (hw 1 (by decide +kernel))
                                      refine ov_blk (ls2 := [(0, ov_r 1)]) (st2 := [ov_r 1, ov_r 1]) (pc2 := 341) b_26_339_2 rfl rfl ?_
                                      refine ov_getf (v := ov_i (h513 1 7)) d_26_341 fl_Tape_21 (zb_1 I589) (zs_1 I589) rfl ?_
                                      refine ov_blk (ls2 := [(0, ov_r 1)]) (st2 := [ov_i ((h513 1 7) + 1), ov_r 1]) (pc2 := 346) b_26_344_2 rfl rfl ?_
                                      refine ov_putf (x := ((h513 1 7) + 1)) d_26_346 fl_Tape_21 (zb_1 I589) (zs_1 I589) rfl nk_0 rfl ?_
                                      have I591 := up_1_7 (x := ((h513 1 7) + 1)) I589 (by omega) (hw 1 (by decide +kernel))
                                      exact ov_retv (st := []) d_26_349 rfl ⟨rfl, I591, (by show (h513 3 3) = (h 3 3) ∧ (h513 36 7) = (h 36 7) ∧ (h513 1 1) = (h 1 1) ∧ (h513 90 2) = (h 90 2) ∧ (h513 0 10) = (h 0 10) ∧ (h513 0 11) = (h 0 11) ∧ (h513 0 12) = (h 0 12) ∧ (h513 0 13) = (h 0 13) ∧ (h513 3 1) = (h 3 1) ∧ (h513 36 8) = (h 36 8) ∧ (h513 46 3) = (h 46 3) ∧ (h513 46 4) = (h 46 4) ∧ (h513 49 4) = (h 49 4) ∧ (h513 49 5) = (h 49 5) ∧ (h513 64 0) = (h 64 0) ∧ (h513 76 0) = (h 76 0); omega)⟩
                                    · skip
                                      refine ov_blk (ls2 := [(0, ov_r 1)]) (st2 := [ov_i 4, ov_r 1]) (pc2 := 332) b_26_331_1 rfl rfl ?_
                                      refine ov_goto (tgt := 336) d_26_332 (by decide) ?_
                                      refine ov_putf (x := 4) d_26_336 fl_Tape_34 (zb_1 I584) (zs_1 I584) rfl nk_0 rfl ?_
                                      have I592 := up_1_2 (x := 4) I584 (by omega) (hw 1 (by decide +kernel))
                                      refine ov_blk (ls2 := [(0, ov_r 1)]) (st2 := [ov_r 1, ov_r 1]) (pc2 := 341) b_26_339_2 rfl rfl ?_
                                      refine ov_getf (v := ov_i (h513 1 7)) d_26_341 fl_Tape_21 (zb_1 I592) (zs_1 I592) rfl ?_
                                      refine ov_blk (ls2 := [(0, ov_r 1)]) (st2 := [ov_i ((h513 1 7) + 1), ov_r 1]) (pc2 := 346) b_26_344_2 rfl rfl ?_
                                      refine ov_putf (x := ((h513 1 7) + 1)) d_26_346 fl_Tape_21 (zb_1 I592) (zs_1 I592) rfl nk_0 rfl ?_
                                      have I594 := up_1_7 (x := ((h513 1 7) + 1)) I592 (by omega) (hw 1 (by decide +kernel))
                                      exact ov_retv (st := []) d_26_349 rfl ⟨rfl, I594, (by show (h513 3 3) = (h 3 3) ∧ (h513 36 7) = (h 36 7) ∧ (h513 1 1) = (h 1 1) ∧ (h513 90 2) = (h 90 2) ∧ (h513 0 10) = (h 0 10) ∧ (h513 0 11) = (h 0 11) ∧ (h513 0 12) = (h 0 12) ∧ (h513 0 13) = (h 0 13) ∧ (h513 3 1) = (h 3 1) ∧ (h513 36 8) = (h 36 8) ∧ (h513 46 3) = (h 46 3) ∧ (h513 46 4) = (h 46 4) ∧ (h513 49 4) = (h 49 4) ∧ (h513 49 5) = (h 49 5) ∧ (h513 64 0) = (h 64 0) ∧ (h513 76 0) = (h 76 0); omega)⟩
                                · skip
                                  refine ov_blk (ls2 := [(0, ov_r 1)]) (st2 := [ov_r 1, ov_r 1]) (pc2 := 268) b_26_266_2 rfl rfl ?_
                                  refine ov_getf (v := ov_i (h513 1 7)) d_26_268 fl_Tape_21 (zb_1 I514) (zs_1 I514) rfl ?_
                                  refine ov_blk (ls2 := [(0, ov_r 1)]) (st2 := [ov_r 1, ov_i (h513 1 7), ov_r 1]) (pc2 := 272) b_26_271_1 rfl rfl ?_
                                  refine ov_getf (v := ov_i (h513 1 3)) d_26_272 fl_Tape_27 (zb_1 I514) (zs_1 I514) rfl ?_
                                  refine ov_blk (ls2 := [(0, ov_r 1)]) (st2 := [ov_i 4, ov_i ((h513 1 7) - (h513 1 3)), ov_r 1]) (pc2 := 277) b_26_275_2 rfl rfl ?_
                                  refine ov_icle (tgt := 284) d_26_277 (by decide) (by omega) (by omega) (fun c597 => ?_) (fun c597 => ?_)
                                  · skip
                                    refine ov_blk (ls2 := [(0, ov_r 1)]) (st2 := [ov_i 3, ov_r 1]) (pc2 := 285) b_26_284_1 rfl rfl ?_
                                    refine ov_putf (x := 3) d_26_285 fl_Tape_34 (zb_1 I514) (zs_1 I514) rfl nk_0 rfl ?_
                                    have I598 := up_1_2 (x := 3) I514 (by omega) (hw 1 (by decide +kernel))
                                    exact ov_retv (st := []) d_26_288 rfl ⟨rfl, I598, (by show (h513 3 3) = (h 3 3) ∧ (h513 36 7) = (h 36 7) ∧ (h513 1 1) = (h 1 1) ∧ (h513 90 2) = (h 90 2) ∧ (h513 0 10) = (h 0 10) ∧ (h513 0 11) = (h 0 11) ∧ (h513 0 12) = (h 0 12) ∧ (h513 0 13) = (h 0 13) ∧ (h513 3 1) = (h 3 1) ∧ (h513 36 8) = (h 36 8) ∧ (h513 46 3) = (h 46 3) ∧ (h513 46 4) = (h 46 4) ∧ (h513 49 4) = (h 49 4) ∧ (h513 49 5) = (h 49 5) ∧ (h513 64 0) = (h 64 0) ∧ (h513 76 0) = (h 76 0); omega)⟩
                                  · skip
                                    refine ov_blk (ls2 := [(0, ov_r 1)]) (st2 := [ov_i 1, ov_r 1]) (pc2 := 281) b_26_280_1 rfl rfl ?_
                                    refine ov_goto (tgt := 285) d_26_281 (by decide) ?_
                                    refine ov_putf (x := 1) d_26_285 fl_Tape_34 (zb_1 I514) (zs_1 I514) rfl nk_0 rfl ?_
                                    have I599 := up_1_2 (x := 1) I514 (by omega) (hw 1 (by decide +kernel))
                                    exact ov_retv (st := []) d_26_288 rfl ⟨rfl, I599, (by show (h513 3 3) = (h 3 3) ∧ (h513 36 7) = (h 36 7) ∧ (h513 1 1) = (h 1 1) ∧ (h513 90 2) = (h 90 2) ∧ (h513 0 10) = (h 0 10) ∧ (h513 0 11) = (h 0 11) ∧ (h513 0 12) = (h 0 12) ∧ (h513 0 13) = (h 0 13) ∧ (h513 3 1) = (h 3 1) ∧ (h513 36 8) = (h 36 8) ∧ (h513 46 3) = (h 46 3) ∧ (h513 46 4) = (h 46 4) ∧ (h513 49 4) = (h 49 4) ∧ (h513 49 5) = (h 49 5) ∧ (h513 64 0) = (h 64 0) ∧ (h513 76 0) = (h 76 0); omega)⟩
                              · skip
                                refine ov_blk (ls2 := [(0, ov_r 1)]) (st2 := [ov_r 1, ov_r 1]) (pc2 := 220) b_26_218_2 rfl rfl ?_
                                refine ov_getf (v := ov_i (h513 1 4)) d_26_220 fl_Tape_37 (zb_1 I514) (zs_1 I514) rfl ?_
                                have g600 := rg_1_4 I514
                                refine ov_blk (ls2 := [(0, ov_r 1)]) (st2 := [ov_i ((h513 1 4) * 10), ov_r 1]) (pc2 := 226) b_26_223_2 rfl rfl ?_
                                refine ov_hav (fun w601 gw601 => ?_)
                                refine ov_blk (ls2 := [(0, ov_r 1)]) (st2 := [ov_r 1, ov_i w601, ov_r 1]) (pc2 := 227) b_26_226_1 rfl rfl ?_
                                refine ov_getf (v := ov_r 2) d_26_227 fl_Tape_9 (zb_1 I514) (zs_1 I514) (congrArg ov_r (rg_1_0 I514)) ?_
                                refine ov_blk (ls2 := [(0, ov_r 1)]) (st2 := [ov_r 1, ov_r 2, ov_i w601, ov_r 1]) (pc2 := 231) b_26_230_1 rfl rfl ?_
                                refine ov_getf (v := ov_i (h513 1 7)) d_26_231 fl_Tape_21 (zb_1 I514) (zs_1 I514) rfl ?_
                                refine ov_cald d_26_234 (zb_2 I514) (zs_2 I514) (by omega) ?_
                                refine ov_blk (ls2 := [(0, ov_r 1)]) (st2 := [ov_i (w601 + (h513 2 (h513 1 7))), ov_r 1]) (pc2 := 236) b_26_235_1 rfl rfl ?_
                                refine ov_hav (fun w604 gw604 => ?_)
                                refine ov_blk (ls2 := [(0, ov_r 1)]) (st2 := [ov_i (w604 - 48), ov_r 1]) (pc2 := 239) b_26_236_2 rfl rfl ?_
                                refine ov_hav (fun w605 gw605 => ?_)
                                refine ov_putf (x := w605) d_26_239 fl_Tape_37 (zb_1 I514) (zs_1 I514) rfl nk_0 rfl ?_
                                have I606 := up_1_4 (x := w605) I514 (by omega) (hw 1 (by decide +kernel))
                                refine ov_blk (ls2 := [(0, ov_r 1)]) (st2 := [ov_r 1, ov_r 1]) (pc2 := 244) b_26_242_2 rfl rfl ?_
                                refine ov_getf (v := ov_i (h513 1 7)) d_26_244 fl_Tape_21 (zb_1 I606) (zs_1 I606) rfl ?_
                                refine ov_blk (ls2 := [(0, ov_r 1)]) (st2 := [ov_i ((h513 1 7) + 1), ov_r 1]) (pc2 := 249) b_26_247_2 rfl rfl ?_
                                refine ov_putf (x := ((h513 1 7) + 1)) d_26_249 fl_Tape_21 (zb_1 I606) (zs_1 I606) rfl nk_0 rfl ?_
                                have I608 := up_1_7 (x := ((h513 1 7) + 1)) I606 (by omega) (hw 1 (by decide +kernel))
                                refine ov_goto (tgt := 179) d_26_252 (by decide) ?_
                                exact ih509  _ _ I608 (by show (h513 3 3) = (h 3 3) ∧ 0 ≤ ((h513 1 7) + 1) ∧ ((h513 1 7) + 1) ≤ 1000 ∧ (h513 36 7) = (h 36 7) ∧ (h513 1 1) = (h 1 1) ∧ (h513 90 2) = (h 90 2) ∧ (h513 0 10) = (h 0 10) ∧ (h513 0 11) = (h 0 11) ∧ (h513 0 12) = (h 0 12) ∧ (h513 0 13) = (h 0 13) ∧ (h513 3 1) = (h 3 1) ∧ (h513 36 8) = (h 36 8) ∧ (h513 46 3) = (h 46 3) ∧ (h513 46 4) = (h 46 4) ∧ (h513 49 4) = (h 49 4) ∧ (h513 49 5) = (h 49 5) ∧ (h513 64 0) = (h 64 0) ∧ (h513 76 0) = (h 76 0); omega) (by show 1000 - ((h513 1 7) + 1) < _; omega)
                      exact L511 1001  _ _ I507 (by show (h385 3 3) = (h 3 3) ∧ 0 ≤ (h385 1 7) ∧ (h385 1 7) ≤ 1000 ∧ (h385 36 7) = (h 36 7) ∧ (h385 1 1) = (h 1 1) ∧ (h385 90 2) = (h 90 2) ∧ (h385 0 10) = (h 0 10) ∧ (h385 0 11) = (h 0 11) ∧ (h385 0 12) = (h 0 12) ∧ (h385 0 13) = (h 0 13) ∧ (h385 3 1) = (h 3 1) ∧ (h385 36 8) = (h 36 8) ∧ (h385 46 3) = (h 46 3) ∧ (h385 46 4) = (h 46 4) ∧ (h385 49 4) = (h 49 4) ∧ (h385 49 5) = (h 49 5) ∧ (h385 64 0) = (h 64 0) ∧ (h385 76 0) = (h 76 0); omega) (by show 1000 - (h385 1 7) < _; omega)
                    · skip
                      refine ov_blk (ls2 := [(0, ov_r 1)]) (st2 := [ov_r 1, ov_r 1]) (pc2 := 152) b_26_150_2 rfl rfl ?_
                      refine ov_getf (v := ov_i (h385 1 7)) d_26_152 fl_Tape_21 (zb_1 I386) (zs_1 I386) rfl ?_
                      refine ov_blk (ls2 := [(0, ov_r 1)]) (st2 := [ov_r 1, ov_i (h385 1 7), ov_r 1]) (pc2 := 156) b_26_155_1 rfl rfl ?_
                      refine ov_getf (v := ov_i (h385 1 3)) d_26_156 fl_Tape_27 (zb_1 I386) (zs_1 I386) rfl ?_
                      refine ov_blk (ls2 := [(0, ov_r 1)]) (st2 := [ov_i 8, ov_i ((h385 1 7) - (h385 1 3)), ov_r 1]) (pc2 := 162) b_26_159_2 rfl rfl ?_
                      refine ov_icle (tgt := 169) d_26_162 (by decide) (by omega) (by omega) (fun c611 => ?_) (fun c611 => ?_)
                      · skip
                        refine ov_blk (ls2 := [(0, ov_r 1)]) (st2 := [ov_i 2, ov_r 1]) (pc2 := 170) b_26_169_1 rfl rfl ?_
                        refine ov_putf (x := 2) d_26_170 fl_Tape_34 (zb_1 I386) (zs_1 I386) rfl nk_0 rfl ?_
                        have I612 := up_1_2 (x := 2) I386 (by omega) (hw 1 (by decide +kernel))
                        exact ov_retv (st := []) d_26_173 rfl ⟨rfl, I612, (by show (h385 3 3) = (h 3 3) ∧ (h385 36 7) = (h 36 7) ∧ (h385 1 1) = (h 1 1) ∧ (h385 90 2) = (h 90 2) ∧ (h385 0 10) = (h 0 10) ∧ (h385 0 11) = (h 0 11) ∧ (h385 0 12) = (h 0 12) ∧ (h385 0 13) = (h 0 13) ∧ (h385 3 1) = (h 3 1) ∧ (h385 36 8) = (h 36 8) ∧ (h385 46 3) = (h 46 3) ∧ (h385 46 4) = (h 46 4) ∧ (h385 49 4) = (h 49 4) ∧ (h385 49 5) = (h 49 5) ∧ (h385 64 0) = (h 64 0) ∧ (h385 76 0) = (h 76 0); omega)⟩
                      · skip
                        refine ov_blk (ls2 := [(0, ov_r 1)]) (st2 := [ov_i 1, ov_r 1]) (pc2 := 166) b_26_165_1 rfl rfl ?_
                        refine ov_goto (tgt := 170) d_26_166 (by decide) ?_
                        refine ov_putf (x := 1) d_26_170 fl_Tape_34 (zb_1 I386) (zs_1 I386) rfl nk_0 rfl ?_
                        have I613 := up_1_2 (x := 1) I386 (by omega) (hw 1 (by decide +kernel))
                        exact ov_retv (st := []) d_26_173 rfl ⟨rfl, I613, (by show (h385 3 3) = (h 3 3) ∧ (h385 36 7) = (h 36 7) ∧ (h385 1 1) = (h 1 1) ∧ (h385 90 2) = (h 90 2) ∧ (h385 0 10) = (h 0 10) ∧ (h385 0 11) = (h 0 11) ∧ (h385 0 12) = (h 0 12) ∧ (h385 0 13) = (h 0 13) ∧ (h385 3 1) = (h 3 1) ∧ (h385 36 8) = (h 36 8) ∧ (h385 46 3) = (h 46 3) ∧ (h385 46 4) = (h 46 4) ∧ (h385 49 4) = (h 49 4) ∧ (h385 49 5) = (h 49 5) ∧ (h385 64 0) = (h 64 0) ∧ (h385 76 0) = (h 76 0); omega)⟩
                  · skip
                    refine ov_blk (ls2 := [(0, ov_r 1)]) (st2 := [ov_r 1]) (pc2 := 91) b_26_90_1 rfl rfl ?_
                    refine ov_getf (v := ov_r 2) d_26_91 fl_Tape_9 (zb_1 I386) (zs_1 I386) (congrArg ov_r (rg_1_0 I386)) ?_
                    refine ov_blk (ls2 := [(0, ov_r 1)]) (st2 := [ov_r 1, ov_r 2]) (pc2 := 95) b_26_94_1 rfl rfl ?_
                    refine ov_getf (v := ov_i (h385 1 7)) d_26_95 fl_Tape_21 (zb_1 I386) (zs_1 I386) rfl ?_
                    refine ov_cald d_26_98 (zb_2 I386) (zs_2 I386) (by omega) ?_
                    refine ov_blk (ls2 := [(0, ov_r 1)]) (st2 := [ov_i 122, ov_i (h385 2 (h385 1 7))]) (pc2 := 101) b_26_99_1 rfl rfl ?_
                    refine ov_icgt (tgt := 139) d_26_101 (by decide) (by omega) (by omega) (fun c616 => ?_) (fun c616 => ?_)
                    · skip
                      refine ov_blk (ls2 := [(0, ov_r 1)]) (st2 := [ov_r 1]) (pc2 := 140) b_26_139_1 rfl rfl ?_
                      refine ov_getf (v := ov_i (h385 1 7)) d_26_140 fl_Tape_21 (zb_1 I386) (zs_1 I386) rfl ?_
                      refine ov_blk (ls2 := [(0, ov_r 1)]) (st2 := [ov_r 1, ov_i (h385 1 7)]) (pc2 := 144) b_26_143_1 rfl rfl ?_
                      refine ov_getf (v := ov_i (h385 1 3)) d_26_144 fl_Tape_27 (zb_1 I386) (zs_1 I386) rfl ?_
                      have g618 := rg_1_3 I386
                      refine ov_icle (tgt := 174) d_26_147 (by decide) (by omega) (by omega) (fun c619 => ?_) (fun c619 => ?_)
                      · skip
                        refine ov_blk (ls2 := [(0, ov_r 1)]) (st2 := [ov_i 0, ov_r 1]) (pc2 := 176) b_26_174_2 rfl rfl ?_
                        refine ov_putf (x := 0) d_26_176 fl_Tape_37 (zb_1 I386) (zs_1 I386) rfl nk_0 rfl ?_
                        have I620 := up_1_4 (x := 0) I386 (by omega) (hw 1 (by decide +kernel))
                        have L624 : ∀ (n621 : Nat) (z625 : ov_Z) (h626 : ov_H) (I627 : ov_I F z625 h626) (q623 : (h626 3 3) = (h 3 3) ∧ 0 ≤ (h626 1 7) ∧ (h626 1 7) ≤ 1000 ∧ (h626 36 7) = (h 36 7) ∧ (h626 1 1) = (h 1 1) ∧ (h626 90 2) = (h 90 2) ∧ (h626 0 10) = (h 0 10) ∧ (h626 0 11) = (h 0 11) ∧ (h626 0 12) = (h 0 12) ∧ (h626 0 13) = (h 0 13) ∧ (h626 3 1) = (h 3 1) ∧ (h626 36 8) = (h 36 8) ∧ (h626 46 3) = (h 46 3) ∧ (h626 46 4) = (h 46 4) ∧ (h626 49 4) = (h 49 4) ∧ (h626 49 5) = (h 49 5) ∧ (h626 64 0) = (h 64 0) ∧ (h626 76 0) = (h 76 0)), 1000 - (h626 1 7) < (n621 : Int) → ov_R u d ov_m26 179 [(0, ov_r 1)] [] z625 h626 (P_Tape_advance_1 F z h) := by
                          intro n621
                          induction n621 with
                          | zero =>
                            intro  z625 h626 I627 q623 hn628
                            exact absurd hn628 (by omega)
                          | succ n621 ih622 =>
                            intro  z625 h626 I627 q623 hn628
                            refine ov_blk (ls2 := [(0, ov_r 1)]) (st2 := [ov_r 1]) (pc2 := 180) b_26_179_1 rfl rfl ?_
                            refine ov_getf (v := ov_i (h626 1 7)) d_26_180 fl_Tape_21 (zb_1 I627) (zs_1 I627) rfl ?_
                            have g629 := rg_1_7 I627
                            refine ov_blk (ls2 := [(0, ov_r 1)]) (st2 := [ov_r 1, ov_i (h626 1 7)]) (pc2 := 184) b_26_183_1 rfl rfl ?_
                            refine ov_getf (v := ov_i (h626 1 1)) d_26_184 fl_Tape_17 (zb_1 I627) (zs_1 I627) rfl ?_
                            have g630 := rg_1_1 I627
                            refine ov_icge (tgt := 255) d_26_187 (by decide) (by omega) (by omega) (fun c631 => ?_) (fun c631 => ?_)
                            · skip
                              refine ov_blk (ls2 := [(0, ov_r 1)]) (st2 := [ov_r 1]) (pc2 := 256) b_26_255_1 rfl rfl ?_
                              refine ov_getf (v := ov_i (h626 1 7)) d_26_256 fl_Tape_21 (zb_1 I627) (zs_1 I627) rfl ?_
                              refine ov_blk (ls2 := [(0, ov_r 1)]) (st2 := [ov_r 1, ov_i (h626 1 7)]) (pc2 := 260) b_26_259_1 rfl rfl ?_
                              refine ov_getf (v := ov_i (h626 1 3)) d_26_260 fl_Tape_27 (zb_1 I627) (zs_1 I627) rfl ?_
                              have g633 := rg_1_3 I627
                              refine ov_icle (tgt := 289) d_26_263 (by decide) (by omega) (by omega) (fun c634 => ?_) (fun c634 => ?_)
                              · skip
                                refine ov_blk (ls2 := [(0, ov_r 1)]) (st2 := [ov_i 0, ov_r 1]) (pc2 := 291) b_26_289_2 rfl rfl ?_
                                refine ov_putf (x := 0) d_26_291 fl_Tape_34 (zb_1 I627) (zs_1 I627) rfl nk_0 rfl ?_
                                have I635 := up_1_2 (x := 0) I627 (by omega) (hw 1 (by decide +kernel))
                                refine ov_blk (ls2 := [(0, ov_r 1)]) (st2 := [ov_r 1]) (pc2 := 295) b_26_294_1 rfl rfl ?_
                                refine ov_getf (v := ov_i (h626 1 7)) d_26_295 fl_Tape_21 (zb_1 I635) (zs_1 I635) rfl ?_
                                refine ov_blk (ls2 := [(0, ov_r 1)]) (st2 := [ov_r 1, ov_i (h626 1 7)]) (pc2 := 299) b_26_298_1 rfl rfl ?_
                                refine ov_getf (v := ov_i (h626 1 1)) d_26_299 fl_Tape_17 (zb_1 I635) (zs_1 I635) rfl ?_
                                refine ov_icge (tgt := 349) d_26_302 (by decide) (by omega) (by omega) (fun c638 => ?_) (fun c638 => ?_)
                                · skip
                                  exact ov_retv (st := []) d_26_349 rfl ⟨rfl, I635, (by show (h626 3 3) = (h 3 3) ∧ (h626 36 7) = (h 36 7) ∧ (h626 1 1) = (h 1 1) ∧ (h626 90 2) = (h 90 2) ∧ (h626 0 10) = (h 0 10) ∧ (h626 0 11) = (h 0 11) ∧ (h626 0 12) = (h 0 12) ∧ (h626 0 13) = (h 0 13) ∧ (h626 3 1) = (h 3 1) ∧ (h626 36 8) = (h 36 8) ∧ (h626 46 3) = (h 46 3) ∧ (h626 46 4) = (h 46 4) ∧ (h626 49 4) = (h 49 4) ∧ (h626 49 5) = (h 49 5) ∧ (h626 64 0) = (h 64 0) ∧ (h626 76 0) = (h 76 0); omega)⟩
                                · skip
                                  refine ov_blk (ls2 := [(0, ov_r 1)]) (st2 := [ov_r 1, ov_r 1]) (pc2 := 307) b_26_305_2 rfl rfl ?_
                                  refine ov_getf (v := ov_r 2) d_26_307 fl_Tape_9 (zb_1 I635) (zs_1 I635) (congrArg ov_r (rg_1_0 I635)) ?_
                                  refine ov_blk (ls2 := [(0, ov_r 1)]) (st2 := [ov_r 1, ov_r 2, ov_r 1]) (pc2 := 311) b_26_310_1 rfl rfl ?_
                                  refine ov_getf (v := ov_i (h626 1 7)) d_26_311 fl_Tape_21 (zb_1 I635) (zs_1 I635) rfl ?_
                                  refine ov_cald d_26_314 (zb_2 I635) (zs_2 I635) (by omega) ?_
                                  show ov_R u d ov_m26 315 [(0, ov_r 1)] [ov_i (h626 2 (h626 1 7)), ov_r 1] z625 (ov_up h626 1 2 0) (P_Tape_advance_1 F z h)
                                  have g640 := ra_2 I627 (h626 1 7)
                                  refine ov_putf (x := (h626 2 (h626 1 7))) d_26_315 fl_Tape_40 (zb_1 I635) (zs_1 I635) rfl (nk_4 (by omega)) rfl ?_
                                  have I641 := up_1_5 (x := (h626 2 (h626 1 7))) I635 (by omega) (hw 1 (by decide +kernel))
                                  refine ov_blk (ls2 := [(0, ov_r 1)]) (st2 := [ov_r 1]) (pc2 := 319) b_26_318_1 rfl rfl ?_
                                  refine ov_ldcT d_26_319 rfl U.2.2 ?_
                                  refine ov_blk (ls2 := [(0, ov_r 1)]) (st2 := [ov_r 1, ov_r (-3), ov_r 1]) (pc2 := 322) b_26_321_1 rfl rfl ?_
                                  refine ov_getf (v := ov_i (h626 2 (h626 1 7))) d_26_322 fl_Tape_40 (zb_1 I641) (zs_1 I641) rfl ?_
                                  refine ov_cVS (as := [ov_i (h626 2 (h626 1 7))]) (st := [ov_r 1]) (d2 := d - 1) d_26_325 lk_Tape_46 rfl (Nat.le_of_ble_eq_true rfl) U.2.2 rfl (by omega) (c_String_indexOf_II_m3 (d - 1) (by omega) U I641 (h626 2 (h626 1 7)) (by omega)) ?_
                                  rintro _ _ _ ⟨v643, rfl, rfl, rfl, f642⟩
                                  show ov_R u d ov_m26 328 [(0, ov_r 1)] [ov_i v643, ov_r 1] z625 (ov_up (ov_up h626 1 2 0) 1 5 (h626 2 (h626 1 7))) (P_Tape_advance_1 F z h)
                                  have f644 : -1 ≤ v643 ∧ v643 ≤ 8 := f642
                                  clear f642
                                  refine ov_iflt (tgt := 335) d_26_328 (by decide) (by omega) (fun c645 => ?_) (fun c645 => ?_)
                                  · skip
                                    refine ov_blk (ls2 := [(0, ov_r 1)]) (st2 := [ov_i 1, ov_r 1]) (pc2 := 336) b_26_335_1 rfl rfl ?_
                                    refine ov_putf (x := 1) d_26_336 fl_Tape_34 (zb_1 I641) (zs_1 I641) rfl nk_0 rfl ?_
                                    have I646 := up_1_2 (x := 1) I641 (by omega) (hw 1 (by decide +kernel))
                                    refine ov_blk (ls2 := [(0, ov_r 1)]) (st2 := [ov_r 1, ov_r 1]) (pc2 := 341) b_26_339_2 rfl rfl ?_
                                    refine ov_getf (v := ov_i (h626 1 7)) d_26_341 fl_Tape_21 (zb_1 I646) (zs_1 I646) rfl ?_
                                    refine ov_blk (ls2 := [(0, ov_r 1)]) (st2 := [ov_i ((h626 1 7) + 1), ov_r 1]) (pc2 := 346) b_26_344_2 rfl rfl ?_
                                    refine ov_putf (x := ((h626 1 7) + 1)) d_26_346 fl_Tape_21 (zb_1 I646) (zs_1 I646) rfl nk_0 rfl ?_
                                    have I648 := up_1_7 (x := ((h626 1 7) + 1)) I646 (by omega) (hw 1 (by decide +kernel))
                                    exact ov_retv (st := []) d_26_349 rfl ⟨rfl, I648, (by show (h626 3 3) = (h 3 3) ∧ (h626 36 7) = (h 36 7) ∧ (h626 1 1) = (h 1 1) ∧ (h626 90 2) = (h 90 2) ∧ (h626 0 10) = (h 0 10) ∧ (h626 0 11) = (h 0 11) ∧ (h626 0 12) = (h 0 12) ∧ (h626 0 13) = (h 0 13) ∧ (h626 3 1) = (h 3 1) ∧ (h626 36 8) = (h 36 8) ∧ (h626 46 3) = (h 46 3) ∧ (h626 46 4) = (h 46 4) ∧ (h626 49 4) = (h 49 4) ∧ (h626 49 5) = (h 49 5) ∧ (h626 64 0) = (h 64 0) ∧ (h626 76 0) = (h 76 0); omega)⟩
                                  · skip
                                    refine ov_blk (ls2 := [(0, ov_r 1)]) (st2 := [ov_i 4, ov_r 1]) (pc2 := 332) b_26_331_1 rfl rfl ?_
                                    refine ov_goto (tgt := 336) d_26_332 (by decide) ?_
                                    refine ov_putf (x := 4) d_26_336 fl_Tape_34 (zb_1 I641) (zs_1 I641) rfl nk_0 rfl ?_
                                    have I649 := up_1_2 (x := 4) I641 (by omega) (hw 1 (by decide +kernel))
                                    refine ov_blk (ls2 := [(0, ov_r 1)]) (st2 := [ov_r 1, ov_r 1]) (pc2 := 341) b_26_339_2 rfl rfl ?_
                                    refine ov_getf (v := ov_i (h626 1 7)) d_26_341 fl_Tape_21 (zb_1 I649) (zs_1 I649) rfl ?_
                                    refine ov_blk (ls2 := [(0, ov_r 1)]) (st2 := [ov_i ((h626 1 7) + 1), ov_r 1]) (pc2 := 346) b_26_344_2 rfl rfl ?_
                                    refine ov_putf (x := ((h626 1 7) + 1)) d_26_346 fl_Tape_21 (zb_1 I649) (zs_1 I649) rfl nk_0 rfl ?_
                                    have I651 := up_1_7 (x := ((h626 1 7) + 1)) I649 (by omega) (hw 1 (by decide +kernel))
                                    exact ov_retv (st := []) d_26_349 rfl ⟨rfl, I651, (by show (h626 3 3) = (h 3 3) ∧ (h626 36 7) = (h 36 7) ∧ (h626 1 1) = (h 1 1) ∧ (h626 90 2) = (h 90 2) ∧ (h626 0 10) = (h 0 10) ∧ (h626 0 11) = (h 0 11) ∧ (h626 0 12) = (h 0 12) ∧ (h626 0 13) = (h 0 13) ∧ (h626 3 1) = (h 3 1) ∧ (h626 36 8) = (h 36 8) ∧ (h626 46 3) = (h 46 3) ∧ (h626 46 4) = (h 46 4) ∧ (h626 49 4) = (h 49 4) ∧ (h626 49 5) = (h 49 5) ∧ (h626 64 0) = (h 64 0) ∧ (h626 76 0) = (h 76 0); omega)⟩
                              · skip
                                refine ov_blk (ls2 := [(0, ov_r 1)]) (st2 := [ov_r 1, ov_r 1]) (pc2 := 268) b_26_266_2 rfl rfl ?_
                                refine ov_getf (v := ov_i (h626 1 7)) d_26_268 fl_Tape_21 (zb_1 I627) (zs_1 I627) rfl ?_
                                refine ov_blk (ls2 := [(0, ov_r 1)]) (st2 := [ov_r 1, ov_i (h626 1 7), ov_r 1]) (pc2 := 272) b_26_271_1 rfl rfl ?_
                                refine ov_getf (v := ov_i (h626 1 3)) d_26_272 fl_Tape_27 (zb_1 I627) (zs_1 I627) rfl ?_
                                refine ov_blk (ls2 := [(0, ov_r 1)]) (st2 := [ov_i 4, ov_i ((h626 1 7) - (h626 1 3)), ov_r 1]) (pc2 := 277) b_26_275_2 rfl rfl ?_
                                refine ov_icle (tgt := 284) d_26_277 (by decide) (by omega) (by omega) (fun c654 => ?_) (fun c654 => ?_)
                                · skip
                                  refine ov_blk (ls2 := [(0, ov_r 1)]) (st2 := [ov_i 3, ov_r 1]) (pc2 := 285) b_26_284_1 rfl rfl ?_
                                  refine ov_putf (x := 3) d_26_285 fl_Tape_34 (zb_1 I627) (zs_1 I627) rfl nk_0 rfl ?_
                                  have I655 := up_1_2 (x := 3) I627 (by omega) (hw 1 (by decide +kernel))
                                  exact ov_retv (st := []) d_26_288 rfl ⟨rfl, I655, (by show (h626 3 3) = (h 3 3) ∧ (h626 36 7) = (h 36 7) ∧ (h626 1 1) = (h 1 1) ∧ (h626 90 2) = (h 90 2) ∧ (h626 0 10) = (h 0 10) ∧ (h626 0 11) = (h 0 11) ∧ (h626 0 12) = (h 0 12) ∧ (h626 0 13) = (h 0 13) ∧ (h626 3 1) = (h 3 1) ∧ (h626 36 8) = (h 36 8) ∧ (h626 46 3) = (h 46 3) ∧ (h626 46 4) = (h 46 4) ∧ (h626 49 4) = (h 49 4) ∧ (h626 49 5) = (h 49 5) ∧ (h626 64 0) = (h 64 0) ∧ (h626 76 0) = (h 76 0); omega)⟩
                                · skip
                                  refine ov_blk (ls2 := [(0, ov_r 1)]) (st2 := [ov_i 1, ov_r 1]) (pc2 := 281) b_26_280_1 rfl rfl ?_
                                  refine ov_goto (tgt := 285) d_26_281 (by decide) ?_
                                  refine ov_putf (x := 1) d_26_285 fl_Tape_34 (zb_1 I627) (zs_1 I627) rfl nk_0 rfl ?_
                                  have I656 := up_1_2 (x := 1) I627 (by omega) (hw 1 (by decide +kernel))
                                  exact ov_retv (st := []) d_26_288 rfl ⟨rfl, I656, (by show (h626 3 3) = (h 3 3) ∧ (h626 36 7) = (h 36 7) ∧ (h626 1 1) = (h 1 1) ∧ (h626 90 2) = (h 90 2) ∧ (h626 0 10) = (h 0 10) ∧ (h626 0 11) = (h 0 11) ∧ (h626 0 12) = (h 0 12) ∧ (h626 0 13) = (h 0 13) ∧ (h626 3 1) = (h 3 1) ∧ (h626 36 8) = (h 36 8) ∧ (h626 46 3) = (h 46 3) ∧ (h626 46 4) = (h 46 4) ∧ (h626 49 4) = (h 49 4) ∧ (h626 49 5) = (h 49 5) ∧ (h626 64 0) = (h 64 0) ∧ (h626 76 0) = (h 76 0); omega)⟩
                            · skip
                              refine ov_blk (ls2 := [(0, ov_r 1)]) (st2 := [ov_r 1]) (pc2 := 191) b_26_190_1 rfl rfl ?_
                              refine ov_getf (v := ov_r 2) d_26_191 fl_Tape_9 (zb_1 I627) (zs_1 I627) (congrArg ov_r (rg_1_0 I627)) ?_
                              refine ov_blk (ls2 := [(0, ov_r 1)]) (st2 := [ov_r 1, ov_r 2]) (pc2 := 195) b_26_194_1 rfl rfl ?_
                              refine ov_getf (v := ov_i (h626 1 7)) d_26_195 fl_Tape_21 (zb_1 I627) (zs_1 I627) rfl ?_
                              refine ov_cald d_26_198 (zb_2 I627) (zs_2 I627) (by omega) ?_
                              have g658 := ra_2 I627 (h626 1 7)
                              refine ov_blk (ls2 := [(0, ov_r 1)]) (st2 := [ov_i 48, ov_i (h626 2 (h626 1 7))]) (pc2 := 201) b_26_199_1 rfl rfl ?_
                              refine ov_iclt (tgt := 255) d_26_201 (by decide) (by omega) (by omega) (fun c659 => ?_) (fun c659 => ?_)
                              · skip
                                refine ov_blk (ls2 := [(0, ov_r 1)]) (st2 := [ov_r 1]) (pc2 := 256) b_26_255_1 rfl rfl ?_
                                refine ov_getf (v := ov_i (h626 1 7)) d_26_256 fl_Tape_21 (zb_1 I627) (zs_1 I627) rfl ?_
                                refine ov_blk (ls2 := [(0, ov_r 1)]) (st2 := [ov_r 1, ov_i (h626 1 7)]) (pc2 := 260) b_26_259_1 rfl rfl ?_
                                refine ov_getf (v := ov_i (h626 1 3)) d_26_260 fl_Tape_27 (zb_1 I627) (zs_1 I627) rfl ?_
                                have g661 := rg_1_3 I627
                                refine ov_icle (tgt := 289) d_26_263 (by decide) (by omega) (by omega) (fun c662 => ?_) (fun c662 => ?_)
                                · skip
                                  refine ov_blk (ls2 := [(0, ov_r 1)]) (st2 := [ov_i 0, ov_r 1]) (pc2 := 291) b_26_289_2 rfl rfl ?_
                                  refine ov_putf (x := 0) d_26_291 fl_Tape_34 (zb_1 I627) (zs_1 I627) rfl nk_0 rfl ?_
                                  have I663 := up_1_2 (x := 0) I627 (by omega) (hw 1 (by decide +kernel))
                                  refine ov_blk (ls2 := [(0, ov_r 1)]) (st2 := [ov_r 1]) (pc2 := 295) b_26_294_1 rfl rfl ?_
                                  refine ov_getf (v := ov_i (h626 1 7)) d_26_295 fl_Tape_21 (zb_1 I663) (zs_1 I663) rfl ?_
                                  refine ov_blk (ls2 := [(0, ov_r 1)]) (st2 := [ov_r 1, ov_i (h626 1 7)]) (pc2 := 299) b_26_298_1 rfl rfl ?_
                                  refine ov_getf (v := ov_i (h626 1 1)) d_26_299 fl_Tape_17 (zb_1 I663) (zs_1 I663) rfl ?_
                                  refine ov_icge (tgt := 349) d_26_302 (by decide) (by omega) (by omega) (fun c666 => ?_) (fun c666 => ?_)
                                  · skip
                                    exact ov_retv (st := []) d_26_349 rfl ⟨rfl, I663, (by show (h626 3 3) = (h 3 3) ∧ (h626 36 7) = (h 36 7) ∧ (h626 1 1) = (h 1 1) ∧ (h626 90 2) = (h 90 2) ∧ (h626 0 10) = (h 0 10) ∧ (h626 0 11) = (h 0 11) ∧ (h626 0 12) = (h 0 12) ∧ (h626 0 13) = (h 0 13) ∧ (h626 3 1) = (h 3 1) ∧ (h626 36 8) = (h 36 8) ∧ (h626 46 3) = (h 46 3) ∧ (h626 46 4) = (h 46 4) ∧ (h626 49 4) = (h 49 4) ∧ (h626 49 5) = (h 49 5) ∧ (h626 64 0) = (h 64 0) ∧ (h626 76 0) = (h 76 0); omega)⟩
                                  · skip
                                    refine ov_blk (ls2 := [(0, ov_r 1)]) (st2 := [ov_r 1, ov_r 1]) (pc2 := 307) b_26_305_2 rfl rfl ?_
                                    refine ov_getf (v := ov_r 2) d_26_307 fl_Tape_9 (zb_1 I663) (zs_1 I663) (congrArg ov_r (rg_1_0 I663)) ?_
                                    refine ov_blk (ls2 := [(0, ov_r 1)]) (st2 := [ov_r 1, ov_r 2, ov_r 1]) (pc2 := 311) b_26_310_1 rfl rfl ?_
                                    refine ov_getf (v := ov_i (h626 1 7)) d_26_311 fl_Tape_21 (zb_1 I663) (zs_1 I663) rfl ?_
                                    refine ov_cald d_26_314 (zb_2 I663) (zs_2 I663) (by omega) ?_
                                    show ov_R u d ov_m26 315 [(0, ov_r 1)] [ov_i (h626 2 (h626 1 7)), ov_r 1] z625 (ov_up h626 1 2 0) (P_Tape_advance_1 F z h)
                                    refine ov_putf (x := (h626 2 (h626 1 7))) d_26_315 fl_Tape_40 (zb_1 I663) (zs_1 I663) rfl (nk_4 (by omega)) rfl ?_
                                    have I669 := up_1_5 (x := (h626 2 (h626 1 7))) I663 (by omega) (hw 1 (by decide +kernel))
                                    refine ov_blk (ls2 := [(0, ov_r 1)]) (st2 := [ov_r 1]) (pc2 := 319) b_26_318_1 rfl rfl ?_
                                    refine ov_ldcT d_26_319 rfl U.2.2 ?_
                                    refine ov_blk (ls2 := [(0, ov_r 1)]) (st2 := [ov_r 1, ov_r (-3), ov_r 1]) (pc2 := 322) b_26_321_1 rfl rfl ?_
                                    refine ov_getf (v := ov_i (h626 2 (h626 1 7))) d_26_322 fl_Tape_40 (zb_1 I669) (zs_1 I669) rfl ?_
                                    refine ov_cVS (as := [ov_i (h626 2 (h626 1 7))]) (st := [ov_r 1]) (d2 := d - 1) d_26_325 lk_Tape_46 rfl (Nat.le_of_ble_eq_true rfl) U.2.2 rfl (by omega) (c_String_indexOf_II_m3 (d - 1) (by omega) U I669 (h626 2 (h626 1 7)) (by omega)) ?_
                                    rintro _ _ _ ⟨v671, rfl, rfl, rfl, f670⟩
                                    show ov_R u d ov_m26 328 [(0, ov_r 1)] [ov_i v671, ov_r 1] z625 (ov_up (ov_up h626 1 2 0) 1 5 (h626 2 (h626 1 7))) (P_Tape_advance_1 F z h)
                                    have f672 : -1 ≤ v671 ∧ v671 ≤ 8 := f670
                                    clear f670
                                    refine ov_iflt (tgt := 335) d_26_328 (by decide) (by omega) (fun c673 => ?_) (fun c673 => ?_)
                                    · skip
                                      refine ov_blk (ls2 := [(0, ov_r 1)]) (st2 := [ov_i 1, ov_r 1]) (pc2 := 336) b_26_335_1 rfl rfl ?_
                                      refine ov_putf (x := 1) d_26_336 fl_Tape_34 (zb_1 I669) (zs_1 I669) rfl nk_0 rfl ?_
                                      have I674 := up_1_2 (x := 1) I669 (by omega) (hw 1 (by decide +kernel))
                                      refine ov_blk (ls2 := [(0, ov_r 1)]) (st2 := [ov_r 1, ov_r 1]) (pc2 := 341) b_26_339_2 rfl rfl ?_
                                      refine ov_getf (v := ov_i (h626 1 7)) d_26_341 fl_Tape_21 (zb_1 I674) (zs_1 I674) rfl ?_
                                      refine ov_blk (ls2 := [(0, ov_r 1)]) (st2 := [ov_i ((h626 1 7) + 1), ov_r 1]) (pc2 := 346) b_26_344_2 rfl rfl ?_
                                      refine ov_putf (x := ((h626 1 7) + 1)) d_26_346 fl_Tape_21 (zb_1 I674) (zs_1 I674) rfl nk_0 rfl ?_
                                      have I676 := up_1_7 (x := ((h626 1 7) + 1)) I674 (by omega) (hw 1 (by decide +kernel))
                                      exact ov_retv (st := []) d_26_349 rfl ⟨rfl, I676, (by show (h626 3 3) = (h 3 3) ∧ (h626 36 7) = (h 36 7) ∧ (h626 1 1) = (h 1 1) ∧ (h626 90 2) = (h 90 2) ∧ (h626 0 10) = (h 0 10) ∧ (h626 0 11) = (h 0 11) ∧ (h626 0 12) = (h 0 12) ∧ (h626 0 13) = (h 0 13) ∧ (h626 3 1) = (h 3 1) ∧ (h626 36 8) = (h 36 8) ∧ (h626 46 3) = (h 46 3) ∧ (h626 46 4) = (h 46 4) ∧ (h626 49 4) = (h 49 4) ∧ (h626 49 5) = (h 49 5) ∧ (h626 64 0) = (h 64 0) ∧ (h626 76 0) = (h 76 0); omega)⟩
                                    · skip
                                      refine ov_blk (ls2 := [(0, ov_r 1)]) (st2 := [ov_i 4, ov_r 1]) (pc2 := 332) b_26_331_1 rfl rfl ?_
                                      refine ov_goto (tgt := 336) d_26_332 (by decide) ?_
                                      refine ov_putf (x := 4) d_26_336 fl_Tape_34 (zb_1 I669) (zs_1 I669) rfl nk_0 rfl ?_
                                      have I677 := up_1_2 (x := 4) I669 (by omega) (hw 1 (by decide +kernel))
                                      refine ov_blk (ls2 := [(0, ov_r 1)]) (st2 := [ov_r 1, ov_r 1]) (pc2 := 341) b_26_339_2 rfl rfl ?_
                                      refine ov_getf (v := ov_i (h626 1 7)) d_26_341 fl_Tape_21 (zb_1 I677) (zs_1 I677) rfl ?_
                                      refine ov_blk (ls2 := [(0, ov_r 1)]) (st2 := [ov_i ((h626 1 7) + 1), ov_r 1]) (pc2 := 346) b_26_344_2 rfl rfl ?_
                                      refine ov_putf (x := ((h626 1 7) + 1)) d_26_346 fl_Tape_21 (zb_1 I677) (zs_1 I677) rfl nk_0 rfl ?_
                                      have I679 := up_1_7 (x := ((h626 1 7) + 1)) I677 (by omega) (hw 1 (by decide +kernel))
                                      exact ov_retv (st := []) d_26_349 rfl ⟨rfl, I679, (by show (h626 3 3) = (h 3 3) ∧ (h626 36 7) = (h 36 7) ∧ (h626 1 1) = (h 1 1) ∧ (h626 90 2) = (h 90 2) ∧ (h626 0 10) = (h 0 10) ∧ (h626 0 11) = (h 0 11) ∧ (h626 0 12) = (h 0 12) ∧ (h626 0 13) = (h 0 13) ∧ (h626 3 1) = (h 3 1) ∧ (h626 36 8) = (h 36 8) ∧ (h626 46 3) = (h 46 3) ∧ (h626 46 4) = (h 46 4) ∧ (h626 49 4) = (h 49 4) ∧ (h626 49 5) = (h 49 5) ∧ (h626 64 0) = (h 64 0) ∧ (h626 76 0) = (h 76 0); omega)⟩
                                · skip
                                  refine ov_blk (ls2 := [(0, ov_r 1)]) (st2 := [ov_r 1, ov_r 1]) (pc2 := 268) b_26_266_2 rfl rfl ?_
                                  refine ov_getf (v := ov_i (h626 1 7)) d_26_268 fl_Tape_21 (zb_1 I627) (zs_1 I627) rfl ?_
                                  refine ov_blk (ls2 := [(0, ov_r 1)]) (st2 := [ov_r 1, ov_i (h626 1 7), ov_r 1]) (pc2 := 272) b_26_271_1 rfl rfl ?_
                                  refine ov_getf (v := ov_i (h626 1 3)) d_26_272 fl_Tape_27 (zb_1 I627) (zs_1 I627) rfl ?_
                                  refine ov_blk (ls2 := [(0, ov_r 1)]) (st2 := [ov_i 4, ov_i ((h626 1 7) - (h626 1 3)), ov_r 1]) (pc2 := 277) b_26_275_2 rfl rfl ?_
                                  refine ov_icle (tgt := 284) d_26_277 (by decide) (by omega) (by omega) (fun c682 => ?_) (fun c682 => ?_)
                                  · skip
                                    refine ov_blk (ls2 := [(0, ov_r 1)]) (st2 := [ov_i 3, ov_r 1]) (pc2 := 285) b_26_284_1 rfl rfl ?_
                                    refine ov_putf (x := 3) d_26_285 fl_Tape_34 (zb_1 I627) (zs_1 I627) rfl nk_0 rfl ?_
                                    have I683 := up_1_2 (x := 3) I627 (by omega) (hw 1 (by decide +kernel))
                                    exact ov_retv (st := []) d_26_288 rfl ⟨rfl, I683, (by show (h626 3 3) = (h 3 3) ∧ (h626 36 7) = (h 36 7) ∧ (h626 1 1) = (h 1 1) ∧ (h626 90 2) = (h 90 2) ∧ (h626 0 10) = (h 0 10) ∧ (h626 0 11) = (h 0 11) ∧ (h626 0 12) = (h 0 12) ∧ (h626 0 13) = (h 0 13) ∧ (h626 3 1) = (h 3 1) ∧ (h626 36 8) = (h 36 8) ∧ (h626 46 3) = (h 46 3) ∧ (h626 46 4) = (h 46 4) ∧ (h626 49 4) = (h 49 4) ∧ (h626 49 5) = (h 49 5) ∧ (h626 64 0) = (h 64 0) ∧ (h626 76 0) = (h 76 0); omega)⟩
                                  · skip
                                    refine ov_blk (ls2 := [(0, ov_r 1)]) (st2 := [ov_i 1, ov_r 1]) (pc2 := 281) b_26_280_1 rfl rfl ?_
                                    refine ov_goto (tgt := 285) d_26_281 (by decide) ?_
                                    refine ov_putf (x := 1) d_26_285 fl_Tape_34 (zb_1 I627) (zs_1 I627) rfl nk_0 rfl ?_
                                    have I684 := up_1_2 (x := 1) I627 (by omega) (hw 1 (by decide +kernel))
                                    exact ov_retv (st := []) d_26_288 rfl ⟨rfl, I684, (by show (h626 3 3) = (h 3 3) ∧ (h626 36 7) = (h 36 7) ∧ (h626 1 1) = (h 1 1) ∧ (h626 90 2) = (h 90 2) ∧ (h626 0 10) = (h 0 10) ∧ (h626 0 11) = (h 0 11) ∧ (h626 0 12) = (h 0 12) ∧ (h626 0 13) = (h 0 13) ∧ (h626 3 1) = (h 3 1) ∧ (h626 36 8) = (h 36 8) ∧ (h626 46 3) = (h 46 3) ∧ (h626 46 4) = (h 46 4) ∧ (h626 49 4) = (h 49 4) ∧ (h626 49 5) = (h 49 5) ∧ (h626 64 0) = (h 64 0) ∧ (h626 76 0) = (h 76 0); omega)⟩
                              · skip
                                refine ov_blk (ls2 := [(0, ov_r 1)]) (st2 := [ov_r 1]) (pc2 := 205) b_26_204_1 rfl rfl ?_
                                refine ov_getf (v := ov_r 2) d_26_205 fl_Tape_9 (zb_1 I627) (zs_1 I627) (congrArg ov_r (rg_1_0 I627)) ?_
                                refine ov_blk (ls2 := [(0, ov_r 1)]) (st2 := [ov_r 1, ov_r 2]) (pc2 := 209) b_26_208_1 rfl rfl ?_
                                refine ov_getf (v := ov_i (h626 1 7)) d_26_209 fl_Tape_21 (zb_1 I627) (zs_1 I627) rfl ?_
                                refine ov_cald d_26_212 (zb_2 I627) (zs_2 I627) (by omega) ?_
                                refine ov_blk (ls2 := [(0, ov_r 1)]) (st2 := [ov_i 57, ov_i (h626 2 (h626 1 7))]) (pc2 := 215) b_26_213_1 rfl rfl ?_
                                refine ov_icgt (tgt := 255) d_26_215 (by decide) (by omega) (by omega) (fun c687 => ?_) (fun c687 => ?_)
                                · skip
                                  refine ov_blk (ls2 := [(0, ov_r 1)]) (st2 := [ov_r 1]) (pc2 := 256) b_26_255_1 rfl rfl ?_
                                  refine ov_getf (v := ov_i (h626 1 7)) d_26_256 fl_Tape_21 (zb_1 I627) (zs_1 I627) rfl ?_
                                  refine ov_blk (ls2 := [(0, ov_r 1)]) (st2 := [ov_r 1, ov_i (h626 1 7)]) (pc2 := 260) b_26_259_1 rfl rfl ?_
                                  refine ov_getf (v := ov_i (h626 1 3)) d_26_260 fl_Tape_27 (zb_1 I627) (zs_1 I627) rfl ?_
                                  have g689 := rg_1_3 I627
                                  refine ov_icle (tgt := 289) d_26_263 (by decide) (by omega) (by omega) (fun c690 => ?_) (fun c690 => ?_)
                                  · skip
                                    refine ov_blk (ls2 := [(0, ov_r 1)]) (st2 := [ov_i 0, ov_r 1]) (pc2 := 291) b_26_289_2 rfl rfl ?_
                                    refine ov_putf (x := 0) d_26_291 fl_Tape_34 (zb_1 I627) (zs_1 I627) rfl nk_0 rfl ?_
                                    have I691 := up_1_2 (x := 0) I627 (by omega) (hw 1 (by decide +kernel))
                                    refine ov_blk (ls2 := [(0, ov_r 1)]) (st2 := [ov_r 1]) (pc2 := 295) b_26_294_1 rfl rfl ?_
                                    refine ov_getf (v := ov_i (h626 1 7)) d_26_295 fl_Tape_21 (zb_1 I691) (zs_1 I691) rfl ?_
                                    refine ov_blk (ls2 := [(0, ov_r 1)]) (st2 := [ov_r 1, ov_i (h626 1 7)]) (pc2 := 299) b_26_298_1 rfl rfl ?_
                                    refine ov_getf (v := ov_i (h626 1 1)) d_26_299 fl_Tape_17 (zb_1 I691) (zs_1 I691) rfl ?_
                                    refine ov_icge (tgt := 349) d_26_302 (by decide) (by omega) (by omega) (fun c694 => ?_) (fun c694 => ?_)
                                    · skip
                                      exact ov_retv (st := []) d_26_349 rfl ⟨rfl, I691, (by show (h626 3 3) = (h 3 3) ∧ (h626 36 7) = (h 36 7) ∧ (h626 1 1) = (h 1 1) ∧ (h626 90 2) = (h 90 2) ∧ (h626 0 10) = (h 0 10) ∧ (h626 0 11) = (h 0 11) ∧ (h626 0 12) = (h 0 12) ∧ (h626 0 13) = (h 0 13) ∧ (h626 3 1) = (h 3 1) ∧ (h626 36 8) = (h 36 8) ∧ (h626 46 3) = (h 46 3) ∧ (h626 46 4) = (h 46 4) ∧ (h626 49 4) = (h 49 4) ∧ (h626 49 5) = (h 49 5) ∧ (h626 64 0) = (h 64 0) ∧ (h626 76 0) = (h 76 0); omega)⟩
                                    · skip
                                      refine ov_blk (ls2 := [(0, ov_r 1)]) (st2 := [ov_r 1, ov_r 1]) (pc2 := 307) b_26_305_2 rfl rfl ?_
                                      refine ov_getf (v := ov_r 2) d_26_307 fl_Tape_9 (zb_1 I691) (zs_1 I691) (congrArg ov_r (rg_1_0 I691)) ?_
                                      refine ov_blk (ls2 := [(0, ov_r 1)]) (st2 := [ov_r 1, ov_r 2, ov_r 1]) (pc2 := 311) b_26_310_1 rfl rfl ?_
                                      refine ov_getf (v := ov_i (h626 1 7)) d_26_311 fl_Tape_21 (zb_1 I691) (zs_1 I691) rfl ?_
                                      refine ov_cald d_26_314 (zb_2 I691) (zs_2 I691) (by omega) ?_
                                      show ov_R u d ov_m26 315 [(0, ov_r 1)] [ov_i (h626 2 (h626 1 7)), ov_r 1] z625 (ov_up h626 1 2 0) (P_Tape_advance_1 F z h)
                                      refine ov_putf (x := (h626 2 (h626 1 7))) d_26_315 fl_Tape_40 (zb_1 I691) (zs_1 I691) rfl (nk_4 (by omega)) rfl ?_
                                      have I697 := up_1_5 (x := (h626 2 (h626 1 7))) I691 (by omega) (hw 1 (by decide +kernel))
                                      refine ov_blk (ls2 := [(0, ov_r 1)]) (st2 := [ov_r 1]) (pc2 := 319) b_26_318_1 rfl rfl ?_
                                      refine ov_ldcT d_26_319 rfl U.2.2 ?_
                                      refine ov_blk (ls2 := [(0, ov_r 1)]) (st2 := [ov_r 1, ov_r (-3), ov_r 1]) (pc2 := 322) b_26_321_1 rfl rfl ?_
                                      refine ov_getf (v := ov_i (h626 2 (h626 1 7))) d_26_322 fl_Tape_40 (zb_1 I697) (zs_1 I697) rfl ?_
                                      refine ov_cVS (as := [ov_i (h626 2 (h626 1 7))]) (st := [ov_r 1]) (d2 := d - 1) d_26_325 lk_Tape_46 rfl (Nat.le_of_ble_eq_true rfl) U.2.2 rfl (by omega) (c_String_indexOf_II_m3 (d - 1) (by omega) U I697 (h626 2 (h626 1 7)) (by omega)) ?_
                                      rintro _ _ _ ⟨v699, rfl, rfl, rfl, f698⟩
                                      show ov_R u d ov_m26 328 [(0, ov_r 1)] [ov_i v699, ov_r 1] z625 (ov_up (ov_up h626 1 2 0) 1 5 (h626 2 (h626 1 7))) (P_Tape_advance_1 F z h)
                                      have f700 : -1 ≤ v699 ∧ v699 ≤ 8 := f698
                                      clear f698
                                      refine ov_iflt (tgt := 335) d_26_328 (by decide) (by omega) (fun c701 => ?_) (fun c701 => ?_)
                                      · skip
                                        refine ov_blk (ls2 := [(0, ov_r 1)]) (st2 := [ov_i 1, ov_r 1]) (pc2 := 336) b_26_335_1 rfl rfl ?_
                                        refine ov_putf (x := 1) d_26_336 fl_Tape_34 (zb_1 I697) (zs_1 I697) rfl nk_0 rfl ?_
                                        have I702 := up_1_2 (x := 1) I697 (by omega) (hw 1 (by decide +kernel))
                                        refine ov_blk (ls2 := [(0, ov_r 1)]) (st2 := [ov_r 1, ov_r 1]) (pc2 := 341) b_26_339_2 rfl rfl ?_
                                        refine ov_getf (v := ov_i (h626 1 7)) d_26_341 fl_Tape_21 (zb_1 I702) (zs_1 I702) rfl ?_
                                        refine ov_blk (ls2 := [(0, ov_r 1)]) (st2 := [ov_i ((h626 1 7) + 1), ov_r 1]) (pc2 := 346) b_26_344_2 rfl rfl ?_
                                        refine ov_putf (x := ((h626 1 7) + 1)) d_26_346 fl_Tape_21 (zb_1 I702) (zs_1 I702) rfl nk_0 rfl ?_
                                        have I704 := up_1_7 (x := ((h626 1 7) + 1)) I702 (by omega) (hw 1 (by decide +kernel))
                                        exact ov_retv (st := []) d_26_349 rfl ⟨rfl, I704, (by show (h626 3 3) = (h 3 3) ∧ (h626 36 7) = (h 36 7) ∧ (h626 1 1) = (h 1 1) ∧ (h626 90 2) = (h 90 2) ∧ (h626 0 10) = (h 0 10) ∧ (h626 0 11) = (h 0 11) ∧ (h626 0 12) = (h 0 12) ∧ (h626 0 13) = (h 0 13) ∧ (h626 3 1) = (h 3 1) ∧ (h626 36 8) = (h 36 8) ∧ (h626 46 3) = (h 46 3) ∧ (h626 46 4) = (h 46 4) ∧ (h626 49 4) = (h 49 4) ∧ (h626 49 5) = (h 49 5) ∧ (h626 64 0) = (h 64 0) ∧ (h626 76 0) = (h 76 0); omega)⟩
                                      · skip
                                        refine ov_blk (ls2 := [(0, ov_r 1)]) (st2 := [ov_i 4, ov_r 1]) (pc2 := 332) b_26_331_1 rfl rfl ?_
                                        refine ov_goto (tgt := 336) d_26_332 (by decide) ?_
                                        refine ov_putf (x := 4) d_26_336 fl_Tape_34 (zb_1 I697) (zs_1 I697) rfl nk_0 rfl ?_
                                        have I705 := up_1_2 (x := 4) I697 (by omega) (hw 1 (by decide +kernel))
                                        refine ov_blk (ls2 := [(0, ov_r 1)]) (st2 := [ov_r 1, ov_r 1]) (pc2 := 341) b_26_339_2 rfl rfl ?_
                                        refine ov_getf (v := ov_i (h626 1 7)) d_26_341 fl_Tape_21 (zb_1 I705) (zs_1 I705) rfl ?_
                                        refine ov_blk (ls2 := [(0, ov_r 1)]) (st2 := [ov_i ((h626 1 7) + 1), ov_r 1]) (pc2 := 346) b_26_344_2 rfl rfl ?_
                                        refine ov_putf (x := ((h626 1 7) + 1)) d_26_346 fl_Tape_21 (zb_1 I705) (zs_1 I705) rfl nk_0 rfl ?_
                                        have I707 := up_1_7 (x := ((h626 1 7) + 1)) I705 (by omega) (hw 1 (by decide +kernel))
                                        exact ov_retv (st := []) d_26_349 rfl ⟨rfl, I707, (by show (h626 3 3) = (h 3 3) ∧ (h626 36 7) = (h 36 7) ∧ (h626 1 1) = (h 1 1) ∧ (h626 90 2) = (h 90 2) ∧ (h626 0 10) = (h 0 10) ∧ (h626 0 11) = (h 0 11) ∧ (h626 0 12) = (h 0 12) ∧ (h626 0 13) = (h 0 13) ∧ (h626 3 1) = (h 3 1) ∧ (h626 36 8) = (h 36 8) ∧ (h626 46 3) = (h 46 3) ∧ (h626 46 4) = (h 46 4) ∧ (h626 49 4) = (h 49 4) ∧ (h626 49 5) = (h 49 5) ∧ (h626 64 0) = (h 64 0) ∧ (h626 76 0) = (h 76 0); omega)⟩
                                  · skip
                                    refine ov_blk (ls2 := [(0, ov_r 1)]) (st2 := [ov_r 1, ov_r 1]) (pc2 := 268) b_26_266_2 rfl rfl ?_
                                    refine ov_getf (v := ov_i (h626 1 7)) d_26_268 fl_Tape_21 (zb_1 I627) (zs_1 I627) rfl ?_
                                    refine ov_blk (ls2 := [(0, ov_r 1)]) (st2 := [ov_r 1, ov_i (h626 1 7), ov_r 1]) (pc2 := 272) b_26_271_1 rfl rfl ?_
                                    refine ov_getf (v := ov_i (h626 1 3)) d_26_272 fl_Tape_27 (zb_1 I627) (zs_1 I627) rfl ?_
                                    refine ov_blk (ls2 := [(0, ov_r 1)]) (st2 := [ov_i 4, ov_i ((h626 1 7) - (h626 1 3)), ov_r 1]) (pc2 := 277) b_26_275_2 rfl rfl ?_
                                    refine ov_icle (tgt := 284) d_26_277 (by decide) (by omega) (by omega) (fun c710 => ?_) (fun c710 => ?_)
                                    · skip
                                      refine ov_blk (ls2 := [(0, ov_r 1)]) (st2 := [ov_i 3, ov_r 1]) (pc2 := 285) b_26_284_1 rfl rfl ?_
                                      refine ov_putf (x := 3) d_26_285 fl_Tape_34 (zb_1 I627) (zs_1 I627) rfl nk_0 rfl ?_
                                      have I711 := up_1_2 (x := 3) I627 (by omega) (hw 1 (by decide +kernel))
                                      exact ov_retv (st := []) d_26_288 rfl ⟨rfl, I711, (by show (h626 3 3) = (h 3 3) ∧ (h626 36 7) = (h 36 7) ∧ (h626 1 1) = (h 1 1) ∧ (h626 90 2) = (h 90 2) ∧ (h626 0 10) = (h 0 10) ∧ (h626 0 11) = (h 0 11) ∧ (h626 0 12) = (h 0 12) ∧ (h626 0 13) = (h 0 13) ∧ (h626 3 1) = (h 3 1) ∧ (h626 36 8) = (h 36 8) ∧ (h626 46 3) = (h 46 3) ∧ (h626 46 4) = (h 46 4) ∧ (h626 49 4) = (h 49 4) ∧ (h626 49 5) = (h 49 5) ∧ (h626 64 0) = (h 64 0) ∧ (h626 76 0) = (h 76 0); omega)⟩
                                    · skip
                                      refine ov_blk (ls2 := [(0, ov_r 1)]) (st2 := [ov_i 1, ov_r 1]) (pc2 := 281) b_26_280_1 rfl rfl ?_
                                      refine ov_goto (tgt := 285) d_26_281 (by decide) ?_
                                      refine ov_putf (x := 1) d_26_285 fl_Tape_34 (zb_1 I627) (zs_1 I627) rfl nk_0 rfl ?_
                                      have I712 := up_1_2 (x := 1) I627 (by omega) (hw 1 (by decide +kernel))
                                      exact ov_retv (st := []) d_26_288 rfl ⟨rfl, I712, (by show (h626 3 3) = (h 3 3) ∧ (h626 36 7) = (h 36 7) ∧ (h626 1 1) = (h 1 1) ∧ (h626 90 2) = (h 90 2) ∧ (h626 0 10) = (h 0 10) ∧ (h626 0 11) = (h 0 11) ∧ (h626 0 12) = (h 0 12) ∧ (h626 0 13) = (h 0 13) ∧ (h626 3 1) = (h 3 1) ∧ (h626 36 8) = (h 36 8) ∧ (h626 46 3) = (h 46 3) ∧ (h626 46 4) = (h 46 4) ∧ (h626 49 4) = (h 49 4) ∧ (h626 49 5) = (h 49 5) ∧ (h626 64 0) = (h 64 0) ∧ (h626 76 0) = (h 76 0); omega)⟩
                                · skip
                                  refine ov_blk (ls2 := [(0, ov_r 1)]) (st2 := [ov_r 1, ov_r 1]) (pc2 := 220) b_26_218_2 rfl rfl ?_
                                  refine ov_getf (v := ov_i (h626 1 4)) d_26_220 fl_Tape_37 (zb_1 I627) (zs_1 I627) rfl ?_
                                  have g713 := rg_1_4 I627
                                  refine ov_blk (ls2 := [(0, ov_r 1)]) (st2 := [ov_i ((h626 1 4) * 10), ov_r 1]) (pc2 := 226) b_26_223_2 rfl rfl ?_
                                  refine ov_hav (fun w714 gw714 => ?_)
                                  refine ov_blk (ls2 := [(0, ov_r 1)]) (st2 := [ov_r 1, ov_i w714, ov_r 1]) (pc2 := 227) b_26_226_1 rfl rfl ?_
                                  refine ov_getf (v := ov_r 2) d_26_227 fl_Tape_9 (zb_1 I627) (zs_1 I627) (congrArg ov_r (rg_1_0 I627)) ?_
                                  refine ov_blk (ls2 := [(0, ov_r 1)]) (st2 := [ov_r 1, ov_r 2, ov_i w714, ov_r 1]) (pc2 := 231) b_26_230_1 rfl rfl ?_
                                  refine ov_getf (v := ov_i (h626 1 7)) d_26_231 fl_Tape_21 (zb_1 I627) (zs_1 I627) rfl ?_
                                  refine ov_cald d_26_234 (zb_2 I627) (zs_2 I627) (by omega) ?_
                                  refine ov_blk (ls2 := [(0, ov_r 1)]) (st2 := [ov_i (w714 + (h626 2 (h626 1 7))), ov_r 1]) (pc2 := 236) b_26_235_1 rfl rfl ?_
                                  refine ov_hav (fun w717 gw717 => ?_)
                                  refine ov_blk (ls2 := [(0, ov_r 1)]) (st2 := [ov_i (w717 - 48), ov_r 1]) (pc2 := 239) b_26_236_2 rfl rfl ?_
                                  refine ov_hav (fun w718 gw718 => ?_)
                                  refine ov_putf (x := w718) d_26_239 fl_Tape_37 (zb_1 I627) (zs_1 I627) rfl nk_0 rfl ?_
                                  have I719 := up_1_4 (x := w718) I627 (by omega) (hw 1 (by decide +kernel))
                                  refine ov_blk (ls2 := [(0, ov_r 1)]) (st2 := [ov_r 1, ov_r 1]) (pc2 := 244) b_26_242_2 rfl rfl ?_
                                  refine ov_getf (v := ov_i (h626 1 7)) d_26_244 fl_Tape_21 (zb_1 I719) (zs_1 I719) rfl ?_
                                  refine ov_blk (ls2 := [(0, ov_r 1)]) (st2 := [ov_i ((h626 1 7) + 1), ov_r 1]) (pc2 := 249) b_26_247_2 rfl rfl ?_
                                  refine ov_putf (x := ((h626 1 7) + 1)) d_26_249 fl_Tape_21 (zb_1 I719) (zs_1 I719) rfl nk_0 rfl ?_
                                  have I721 := up_1_7 (x := ((h626 1 7) + 1)) I719 (by omega) (hw 1 (by decide +kernel))
                                  refine ov_goto (tgt := 179) d_26_252 (by decide) ?_
                                  exact ih622  _ _ I721 (by show (h626 3 3) = (h 3 3) ∧ 0 ≤ ((h626 1 7) + 1) ∧ ((h626 1 7) + 1) ≤ 1000 ∧ (h626 36 7) = (h 36 7) ∧ (h626 1 1) = (h 1 1) ∧ (h626 90 2) = (h 90 2) ∧ (h626 0 10) = (h 0 10) ∧ (h626 0 11) = (h 0 11) ∧ (h626 0 12) = (h 0 12) ∧ (h626 0 13) = (h 0 13) ∧ (h626 3 1) = (h 3 1) ∧ (h626 36 8) = (h 36 8) ∧ (h626 46 3) = (h 46 3) ∧ (h626 46 4) = (h 46 4) ∧ (h626 49 4) = (h 49 4) ∧ (h626 49 5) = (h 49 5) ∧ (h626 64 0) = (h 64 0) ∧ (h626 76 0) = (h 76 0); omega) (by show 1000 - ((h626 1 7) + 1) < _; omega)
                        exact L624 1001  _ _ I620 (by show (h385 3 3) = (h 3 3) ∧ 0 ≤ (h385 1 7) ∧ (h385 1 7) ≤ 1000 ∧ (h385 36 7) = (h 36 7) ∧ (h385 1 1) = (h 1 1) ∧ (h385 90 2) = (h 90 2) ∧ (h385 0 10) = (h 0 10) ∧ (h385 0 11) = (h 0 11) ∧ (h385 0 12) = (h 0 12) ∧ (h385 0 13) = (h 0 13) ∧ (h385 3 1) = (h 3 1) ∧ (h385 36 8) = (h 36 8) ∧ (h385 46 3) = (h 46 3) ∧ (h385 46 4) = (h 46 4) ∧ (h385 49 4) = (h 49 4) ∧ (h385 49 5) = (h 49 5) ∧ (h385 64 0) = (h 64 0) ∧ (h385 76 0) = (h 76 0); omega) (by show 1000 - (h385 1 7) < _; omega)
                      · skip
                        refine ov_blk (ls2 := [(0, ov_r 1)]) (st2 := [ov_r 1, ov_r 1]) (pc2 := 152) b_26_150_2 rfl rfl ?_
                        refine ov_getf (v := ov_i (h385 1 7)) d_26_152 fl_Tape_21 (zb_1 I386) (zs_1 I386) rfl ?_
                        refine ov_blk (ls2 := [(0, ov_r 1)]) (st2 := [ov_r 1, ov_i (h385 1 7), ov_r 1]) (pc2 := 156) b_26_155_1 rfl rfl ?_
                        refine ov_getf (v := ov_i (h385 1 3)) d_26_156 fl_Tape_27 (zb_1 I386) (zs_1 I386) rfl ?_
                        refine ov_blk (ls2 := [(0, ov_r 1)]) (st2 := [ov_i 8, ov_i ((h385 1 7) - (h385 1 3)), ov_r 1]) (pc2 := 162) b_26_159_2 rfl rfl ?_
                        refine ov_icle (tgt := 169) d_26_162 (by decide) (by omega) (by omega) (fun c724 => ?_) (fun c724 => ?_)
                        · skip
                          refine ov_blk (ls2 := [(0, ov_r 1)]) (st2 := [ov_i 2, ov_r 1]) (pc2 := 170) b_26_169_1 rfl rfl ?_
                          refine ov_putf (x := 2) d_26_170 fl_Tape_34 (zb_1 I386) (zs_1 I386) rfl nk_0 rfl ?_
                          have I725 := up_1_2 (x := 2) I386 (by omega) (hw 1 (by decide +kernel))
                          exact ov_retv (st := []) d_26_173 rfl ⟨rfl, I725, (by show (h385 3 3) = (h 3 3) ∧ (h385 36 7) = (h 36 7) ∧ (h385 1 1) = (h 1 1) ∧ (h385 90 2) = (h 90 2) ∧ (h385 0 10) = (h 0 10) ∧ (h385 0 11) = (h 0 11) ∧ (h385 0 12) = (h 0 12) ∧ (h385 0 13) = (h 0 13) ∧ (h385 3 1) = (h 3 1) ∧ (h385 36 8) = (h 36 8) ∧ (h385 46 3) = (h 46 3) ∧ (h385 46 4) = (h 46 4) ∧ (h385 49 4) = (h 49 4) ∧ (h385 49 5) = (h 49 5) ∧ (h385 64 0) = (h 64 0) ∧ (h385 76 0) = (h 76 0); omega)⟩
                        · skip
                          refine ov_blk (ls2 := [(0, ov_r 1)]) (st2 := [ov_i 1, ov_r 1]) (pc2 := 166) b_26_165_1 rfl rfl ?_
                          refine ov_goto (tgt := 170) d_26_166 (by decide) ?_
                          refine ov_putf (x := 1) d_26_170 fl_Tape_34 (zb_1 I386) (zs_1 I386) rfl nk_0 rfl ?_
                          have I726 := up_1_2 (x := 1) I386 (by omega) (hw 1 (by decide +kernel))
                          exact ov_retv (st := []) d_26_173 rfl ⟨rfl, I726, (by show (h385 3 3) = (h 3 3) ∧ (h385 36 7) = (h 36 7) ∧ (h385 1 1) = (h 1 1) ∧ (h385 90 2) = (h 90 2) ∧ (h385 0 10) = (h 0 10) ∧ (h385 0 11) = (h 0 11) ∧ (h385 0 12) = (h 0 12) ∧ (h385 0 13) = (h 0 13) ∧ (h385 3 1) = (h 3 1) ∧ (h385 36 8) = (h 36 8) ∧ (h385 46 3) = (h 46 3) ∧ (h385 46 4) = (h 46 4) ∧ (h385 49 4) = (h 49 4) ∧ (h385 49 5) = (h 49 5) ∧ (h385 64 0) = (h 64 0) ∧ (h385 76 0) = (h 76 0); omega)⟩
                    · skip
                      refine ov_blk (ls2 := [(0, ov_r 1)]) (st2 := [ov_r 1, ov_r 1]) (pc2 := 106) b_26_104_2 rfl rfl ?_
                      refine ov_getf (v := ov_l (h385 1 6)) d_26_106 fl_Tape_30 (zb_1 I386) (zs_1 I386) rfl ?_
                      refine ov_blk (ls2 := [(0, ov_r 1)]) (st2 := [ov_r 1, ov_l (ov_lshl (h385 1 6) 8), ov_r 1]) (pc2 := 113) b_26_109_3 rfl rfl ?_
                      refine ov_getf (v := ov_r 2) d_26_113 fl_Tape_9 (zb_1 I386) (zs_1 I386) (congrArg ov_r (rg_1_0 I386)) ?_
                      refine ov_blk (ls2 := [(0, ov_r 1)]) (st2 := [ov_r 1, ov_r 2, ov_l (ov_lshl (h385 1 6) 8), ov_r 1]) (pc2 := 117) b_26_116_1 rfl rfl ?_
                      refine ov_getf (v := ov_i (h385 1 7)) d_26_117 fl_Tape_21 (zb_1 I386) (zs_1 I386) rfl ?_
                      refine ov_cald d_26_120 (zb_2 I386) (zs_2 I386) (by omega) ?_
                      refine ov_blk (ls2 := [(0, ov_r 1)]) (st2 := [ov_l (ov_lor (ov_lshl (h385 1 6) 8) (ov_w (h385 2 (h385 1 7)))), ov_r 1]) (pc2 := 123) b_26_121_2 rfl rfl ?_
                      have g729 := ov_wg (h385 2 (h385 1 7))
                      have g730 := ov_wq (h385 2 (h385 1 7))
                      refine ov_putf (x := (ov_lor (ov_lshl (h385 1 6) 8) (ov_w (h385 2 (h385 1 7))))) d_26_123 fl_Tape_30 (zb_1 I386) (zs_1 I386) rfl nk_1 rfl ?_
                      have I731 := up_1_6 (x := (ov_lor (ov_lshl (h385 1 6) 8) (ov_w (h385 2 (h385 1 7))))) I386 (hw 1 (by decide +kernel))
                      refine ov_blk (ls2 := [(0, ov_r 1)]) (st2 := [ov_r 1, ov_r 1]) (pc2 := 128) b_26_126_2 rfl rfl ?_
                      refine ov_getf (v := ov_i (h385 1 7)) d_26_128 fl_Tape_21 (zb_1 I731) (zs_1 I731) rfl ?_
                      refine ov_blk (ls2 := [(0, ov_r 1)]) (st2 := [ov_i ((h385 1 7) + 1), ov_r 1]) (pc2 := 133) b_26_131_2 rfl rfl ?_
                      refine ov_putf (x := ((h385 1 7) + 1)) d_26_133 fl_Tape_21 (zb_1 I731) (zs_1 I731) rfl nk_0 rfl ?_
                      have I733 := up_1_7 (x := ((h385 1 7) + 1)) I731 (by omega) (hw 1 (by decide +kernel))
                      refine ov_goto (tgt := 65) d_26_136 (by decide) ?_
                      exact ih381  _ _ I733 (by show (h385 3 3) = (h 3 3) ∧ 0 ≤ ((h385 1 7) + 1) ∧ ((h385 1 7) + 1) ≤ 1000 ∧ (h385 36 7) = (h 36 7) ∧ (h385 1 1) = (h 1 1) ∧ (h385 90 2) = (h 90 2) ∧ (h385 0 10) = (h 0 10) ∧ (h385 0 11) = (h 0 11) ∧ (h385 0 12) = (h 0 12) ∧ (h385 0 13) = (h 0 13) ∧ (h385 3 1) = (h 3 1) ∧ (h385 36 8) = (h 36 8) ∧ (h385 46 3) = (h 46 3) ∧ (h385 46 4) = (h 46 4) ∧ (h385 49 4) = (h 49 4) ∧ (h385 49 5) = (h 49 5) ∧ (h385 64 0) = (h 64 0) ∧ (h385 76 0) = (h 76 0); omega) (by show 1000 - ((h385 1 7) + 1) < _; omega)
            exact L383 1001  _ _ I379 (by show (h6 3 3) = (h 3 3) ∧ 0 ≤ (h6 1 7) ∧ (h6 1 7) ≤ 1000 ∧ (h6 36 7) = (h 36 7) ∧ (h6 1 1) = (h 1 1) ∧ (h6 90 2) = (h 90 2) ∧ (h6 0 10) = (h 0 10) ∧ (h6 0 11) = (h 0 11) ∧ (h6 0 12) = (h 0 12) ∧ (h6 0 13) = (h 0 13) ∧ (h6 3 1) = (h 3 1) ∧ (h6 36 8) = (h 36 8) ∧ (h6 46 3) = (h 46 3) ∧ (h6 46 4) = (h 46 4) ∧ (h6 49 4) = (h 49 4) ∧ (h6 49 5) = (h 49 5) ∧ (h6 64 0) = (h 64 0) ∧ (h6 76 0) = (h 76 0); omega) (by show 1000 - (h6 1 7) < _; omega)
          · skip
            refine ov_blk (ls2 := [(0, ov_r 1)]) (st2 := [ov_r 1, ov_r 1]) (pc2 := 41) b_26_39_2 rfl rfl ?_
            refine ov_getf (v := ov_i (h6 1 7)) d_26_41 fl_Tape_21 (zb_1 I7) (zs_1 I7) rfl ?_
            refine ov_blk (ls2 := [(0, ov_r 1)]) (st2 := [ov_i ((h6 1 7) + 1), ov_r 1]) (pc2 := 46) b_26_44_2 rfl rfl ?_
            refine ov_putf (x := ((h6 1 7) + 1)) d_26_46 fl_Tape_21 (zb_1 I7) (zs_1 I7) rfl nk_0 rfl ?_
            have I735 := up_1_7 (x := ((h6 1 7) + 1)) I7 (by omega) (hw 1 (by decide +kernel))
            refine ov_goto (tgt := 0) d_26_49 (by decide) ?_
            exact ih2  _ _ I735 (by show (h6 3 3) = (h 3 3) ∧ 0 ≤ ((h6 1 7) + 1) ∧ ((h6 1 7) + 1) ≤ 1000 ∧ (h6 36 7) = (h 36 7) ∧ (h6 1 1) = (h 1 1) ∧ (h6 90 2) = (h 90 2) ∧ (h6 0 10) = (h 0 10) ∧ (h6 0 11) = (h 0 11) ∧ (h6 0 12) = (h 0 12) ∧ (h6 0 13) = (h 0 13) ∧ (h6 3 1) = (h 3 1) ∧ (h6 36 8) = (h 36 8) ∧ (h6 46 3) = (h 46 3) ∧ (h6 46 4) = (h 46 4) ∧ (h6 49 4) = (h 49 4) ∧ (h6 49 5) = (h 49 5) ∧ (h6 64 0) = (h 64 0) ∧ (h6 76 0) = (h 76 0); omega) (by show 1000 - ((h6 1 7) + 1) < _; omega)
  exact L4 1001  _ _ I (by show (h 3 3) = (h 3 3) ∧ 0 ≤ (h 1 7) ∧ (h 1 7) ≤ 1000 ∧ (h 36 7) = (h 36 7) ∧ (h 1 1) = (h 1 1) ∧ (h 90 2) = (h 90 2) ∧ (h 0 10) = (h 0 10) ∧ (h 0 11) = (h 0 11) ∧ (h 0 12) = (h 0 12) ∧ (h 0 13) = (h 0 13) ∧ (h 3 1) = (h 3 1) ∧ (h 36 8) = (h 36 8) ∧ (h 46 3) = (h 46 3) ∧ (h 46 4) = (h 46 4) ∧ (h 49 4) = (h 49 4) ∧ (h 49 5) = (h 49 5) ∧ (h 64 0) = (h 64 0) ∧ (h 76 0) = (h 76 0); omega) (by show 1000 - (h 1 7) < _; omega)

/-- the law, by whatever name -/
abbrev ov_mL (nm : String) : ov_M := ({ cls := "OverFirstLaw", name := nm, desc := "([I)Z" }, ov_m313.2)
abbrev ov_LQ : Option ov_V → ov_Z → ov_H → Prop := fun r0 _ _ => r0 = some (ov_i 1)
theorem b_313_172_5 : ov_ds ov_m313.2.1 172 [.aload_n 1, .aload_n 0, .iload_n 3, .iconst 1, .iadd] = true := by decide +kernel
theorem d_313_177 : decode ov_m313.2.1 177 = .ok (.iaload, 1) := by decide +kernel
theorem b_313_178_7 : ov_ds ov_m313.2.1 178 [.i2l, .bipush 32, .lshl, .aload_n 0, .iload_n 3, .iconst 2, .iadd] = true := by decide +kernel
theorem d_313_186 : decode ov_m313.2.1 186 = .ok (.iaload, 1) := by decide +kernel
theorem b_313_187_1 : ov_ds ov_m313.2.1 187 [.i2l] = true := by decide +kernel
theorem d_313_188 : decode ov_m313.2.1 188 = .ok (.ldc2_w 13, 3) := by decide +kernel
theorem b_313_191_6 : ov_ds ov_m313.2.1 191 [.land, .lor, .aload_n 0, .iload_n 3, .iconst 3, .iadd] = true := by decide +kernel
theorem d_313_197 : decode ov_m313.2.1 197 = .ok (.iaload, 1) := by decide +kernel
theorem b_313_198_7 : ov_ds ov_m313.2.1 198 [.i2l, .bipush 32, .lshl, .aload_n 0, .iload_n 3, .iconst 4, .iadd] = true := by decide +kernel
theorem d_313_206 : decode ov_m313.2.1 206 = .ok (.iaload, 1) := by decide +kernel
theorem b_313_207_1 : ov_ds ov_m313.2.1 207 [.i2l] = true := by decide +kernel
theorem d_313_208 : decode ov_m313.2.1 208 = .ok (.ldc2_w 13, 3) := by decide +kernel
theorem b_313_211_6 : ov_ds ov_m313.2.1 211 [.land, .lor, .aload_n 0, .iload_n 3, .iconst 5, .iadd] = true := by decide +kernel
theorem d_313_217 : decode ov_m313.2.1 217 = .ok (.iaload, 1) := by decide +kernel
theorem b_313_218_7 : ov_ds ov_m313.2.1 218 [.i2l, .bipush 32, .lshl, .aload_n 0, .iload_n 3, .bipush 6, .iadd] = true := by decide +kernel
theorem d_313_227 : decode ov_m313.2.1 227 = .ok (.iaload, 1) := by decide +kernel
theorem b_313_228_1 : ov_ds ov_m313.2.1 228 [.i2l] = true := by decide +kernel
theorem d_313_229 : decode ov_m313.2.1 229 = .ok (.ldc2_w 13, 3) := by decide +kernel
theorem b_313_232_2 : ov_ds ov_m313.2.1 232 [.land, .lor] = true := by decide +kernel
theorem d_313_234 : decode ov_m313.2.1 234 = .ok (.invokevirtual 15, 3) := by decide +kernel
theorem b_313_237_6 : ov_ds ov_m313.2.1 237 [.pop, .aload_n 2, .aload_n 0, .iload_n 3, .iconst 1, .iadd] = true := by decide +kernel
theorem d_313_243 : decode ov_m313.2.1 243 = .ok (.iaload, 1) := by decide +kernel
theorem b_313_244_7 : ov_ds ov_m313.2.1 244 [.i2l, .bipush 32, .lshl, .aload_n 0, .iload_n 3, .iconst 2, .iadd] = true := by decide +kernel
theorem d_313_252 : decode ov_m313.2.1 252 = .ok (.iaload, 1) := by decide +kernel
theorem b_313_253_1 : ov_ds ov_m313.2.1 253 [.i2l] = true := by decide +kernel
theorem d_313_254 : decode ov_m313.2.1 254 = .ok (.ldc2_w 13, 3) := by decide +kernel
theorem b_313_257_6 : ov_ds ov_m313.2.1 257 [.land, .lor, .aload_n 0, .iload_n 3, .iconst 3, .iadd] = true := by decide +kernel
theorem d_313_263 : decode ov_m313.2.1 263 = .ok (.iaload, 1) := by decide +kernel
theorem b_313_264_7 : ov_ds ov_m313.2.1 264 [.i2l, .bipush 32, .lshl, .aload_n 0, .iload_n 3, .iconst 4, .iadd] = true := by decide +kernel
theorem d_313_272 : decode ov_m313.2.1 272 = .ok (.iaload, 1) := by decide +kernel
theorem b_313_273_1 : ov_ds ov_m313.2.1 273 [.i2l] = true := by decide +kernel
theorem d_313_274 : decode ov_m313.2.1 274 = .ok (.ldc2_w 13, 3) := by decide +kernel
theorem b_313_277_6 : ov_ds ov_m313.2.1 277 [.land, .lor, .aload_n 0, .iload_n 3, .iconst 5, .iadd] = true := by decide +kernel
theorem d_313_283 : decode ov_m313.2.1 283 = .ok (.iaload, 1) := by decide +kernel
theorem b_313_284_7 : ov_ds ov_m313.2.1 284 [.i2l, .bipush 32, .lshl, .aload_n 0, .iload_n 3, .bipush 6, .iadd] = true := by decide +kernel
theorem d_313_293 : decode ov_m313.2.1 293 = .ok (.iaload, 1) := by decide +kernel
theorem b_313_294_1 : ov_ds ov_m313.2.1 294 [.i2l] = true := by decide +kernel
theorem d_313_295 : decode ov_m313.2.1 295 = .ok (.ldc2_w 13, 3) := by decide +kernel
theorem b_313_298_2 : ov_ds ov_m313.2.1 298 [.land, .lor] = true := by decide +kernel
theorem d_313_300 : decode ov_m313.2.1 300 = .ok (.invokevirtual 19, 3) := by decide +kernel
theorem b_313_303_1 : ov_ds ov_m313.2.1 303 [.pop] = true := by decide +kernel
theorem d_313_304 : decode ov_m313.2.1 304 = .ok (.goto 1158, 3) := by decide +kernel
theorem b_313_307_1 : ov_ds ov_m313.2.1 307 [.aload_n 1] = true := by decide +kernel
theorem d_313_308 : decode ov_m313.2.1 308 = .ok (.invokevirtual 20, 3) := by decide +kernel
theorem b_313_311_2 : ov_ds ov_m313.2.1 311 [.pop, .aload_n 2] = true := by decide +kernel
theorem d_313_313 : decode ov_m313.2.1 313 = .ok (.invokevirtual 24, 3) := by decide +kernel
theorem b_313_316_1 : ov_ds ov_m313.2.1 316 [.pop] = true := by decide +kernel
theorem d_313_317 : decode ov_m313.2.1 317 = .ok (.goto 1145, 3) := by decide +kernel
theorem b_313_320_1 : ov_ds ov_m313.2.1 320 [.aload_n 1] = true := by decide +kernel
theorem d_313_321 : decode ov_m313.2.1 321 = .ok (.invokevirtual 25, 3) := by decide +kernel
theorem b_313_324_2 : ov_ds ov_m313.2.1 324 [.pop, .aload_n 2] = true := by decide +kernel
theorem d_313_326 : decode ov_m313.2.1 326 = .ok (.invokevirtual 28, 3) := by decide +kernel
theorem b_313_329_1 : ov_ds ov_m313.2.1 329 [.pop] = true := by decide +kernel
theorem d_313_330 : decode ov_m313.2.1 330 = .ok (.goto 1132, 3) := by decide +kernel
theorem b_313_333_5 : ov_ds ov_m313.2.1 333 [.aload_n 1, .aload_n 0, .iload_n 3, .iconst 1, .iadd] = true := by decide +kernel
theorem d_313_338 : decode ov_m313.2.1 338 = .ok (.iaload, 1) := by decide +kernel
theorem b_313_339_4 : ov_ds ov_m313.2.1 339 [.aload_n 0, .iload_n 3, .iconst 2, .iadd] = true := by decide +kernel
theorem d_313_343 : decode ov_m313.2.1 343 = .ok (.iaload, 1) := by decide +kernel
theorem b_313_344_4 : ov_ds ov_m313.2.1 344 [.aload_n 0, .iload_n 3, .iconst 3, .iadd] = true := by decide +kernel
theorem d_313_348 : decode ov_m313.2.1 348 = .ok (.iaload, 1) := by decide +kernel
theorem d_313_349 : decode ov_m313.2.1 349 = .ok (.invokevirtual 29, 3) := by decide +kernel
theorem b_313_352_6 : ov_ds ov_m313.2.1 352 [.pop, .aload_n 2, .aload_n 0, .iload_n 3, .iconst 1, .iadd] = true := by decide +kernel
theorem d_313_358 : decode ov_m313.2.1 358 = .ok (.iaload, 1) := by decide +kernel
theorem b_313_359_4 : ov_ds ov_m313.2.1 359 [.aload_n 0, .iload_n 3, .iconst 2, .iadd] = true := by decide +kernel
theorem d_313_363 : decode ov_m313.2.1 363 = .ok (.iaload, 1) := by decide +kernel
theorem b_313_364_4 : ov_ds ov_m313.2.1 364 [.aload_n 0, .iload_n 3, .iconst 3, .iadd] = true := by decide +kernel
theorem d_313_368 : decode ov_m313.2.1 368 = .ok (.iaload, 1) := by decide +kernel
theorem d_313_369 : decode ov_m313.2.1 369 = .ok (.invokevirtual 33, 3) := by decide +kernel
theorem b_313_372_1 : ov_ds ov_m313.2.1 372 [.pop] = true := by decide +kernel
theorem d_313_373 : decode ov_m313.2.1 373 = .ok (.goto 1089, 3) := by decide +kernel
theorem b_313_376_5 : ov_ds ov_m313.2.1 376 [.aload_n 1, .aload_n 0, .iload_n 3, .iconst 1, .iadd] = true := by decide +kernel
theorem d_313_381 : decode ov_m313.2.1 381 = .ok (.iaload, 1) := by decide +kernel
theorem b_313_382_4 : ov_ds ov_m313.2.1 382 [.aload_n 0, .iload_n 3, .iconst 2, .iadd] = true := by decide +kernel
theorem d_313_386 : decode ov_m313.2.1 386 = .ok (.iaload, 1) := by decide +kernel
theorem b_313_387_4 : ov_ds ov_m313.2.1 387 [.aload_n 0, .iload_n 3, .iconst 3, .iadd] = true := by decide +kernel
theorem d_313_391 : decode ov_m313.2.1 391 = .ok (.iaload, 1) := by decide +kernel
theorem b_313_392_4 : ov_ds ov_m313.2.1 392 [.aload_n 0, .iload_n 3, .iconst 4, .iadd] = true := by decide +kernel
theorem d_313_396 : decode ov_m313.2.1 396 = .ok (.iaload, 1) := by decide +kernel
theorem d_313_397 : decode ov_m313.2.1 397 = .ok (.invokevirtual 34, 3) := by decide +kernel
theorem b_313_400_6 : ov_ds ov_m313.2.1 400 [.pop, .aload_n 2, .aload_n 0, .iload_n 3, .iconst 1, .iadd] = true := by decide +kernel
theorem d_313_406 : decode ov_m313.2.1 406 = .ok (.iaload, 1) := by decide +kernel
theorem b_313_407_4 : ov_ds ov_m313.2.1 407 [.aload_n 0, .iload_n 3, .iconst 2, .iadd] = true := by decide +kernel
theorem d_313_411 : decode ov_m313.2.1 411 = .ok (.iaload, 1) := by decide +kernel
theorem b_313_412_4 : ov_ds ov_m313.2.1 412 [.aload_n 0, .iload_n 3, .iconst 3, .iadd] = true := by decide +kernel
theorem d_313_416 : decode ov_m313.2.1 416 = .ok (.iaload, 1) := by decide +kernel
theorem b_313_417_4 : ov_ds ov_m313.2.1 417 [.aload_n 0, .iload_n 3, .iconst 4, .iadd] = true := by decide +kernel
theorem d_313_421 : decode ov_m313.2.1 421 = .ok (.iaload, 1) := by decide +kernel
theorem d_313_422 : decode ov_m313.2.1 422 = .ok (.invokevirtual 38, 3) := by decide +kernel
theorem b_313_425_1 : ov_ds ov_m313.2.1 425 [.pop] = true := by decide +kernel
theorem d_313_426 : decode ov_m313.2.1 426 = .ok (.goto 1036, 3) := by decide +kernel
theorem b_313_429_5 : ov_ds ov_m313.2.1 429 [.aload_n 1, .aload_n 0, .iload_n 3, .iconst 1, .iadd] = true := by decide +kernel
theorem d_313_434 : decode ov_m313.2.1 434 = .ok (.iaload, 1) := by decide +kernel
theorem b_313_435_4 : ov_ds ov_m313.2.1 435 [.aload_n 0, .iload_n 3, .iconst 2, .iadd] = true := by decide +kernel
theorem d_313_439 : decode ov_m313.2.1 439 = .ok (.iaload, 1) := by decide +kernel
theorem b_313_440_4 : ov_ds ov_m313.2.1 440 [.aload_n 0, .iload_n 3, .iconst 3, .iadd] = true := by decide +kernel
theorem d_313_444 : decode ov_m313.2.1 444 = .ok (.iaload, 1) := by decide +kernel
theorem b_313_445_4 : ov_ds ov_m313.2.1 445 [.aload_n 0, .iload_n 3, .iconst 4, .iadd] = true := by decide +kernel
theorem d_313_449 : decode ov_m313.2.1 449 = .ok (.iaload, 1) := by decide +kernel
theorem d_313_450 : decode ov_m313.2.1 450 = .ok (.invokevirtual 39, 3) := by decide +kernel
theorem b_313_453_6 : ov_ds ov_m313.2.1 453 [.pop, .aload_n 2, .aload_n 0, .iload_n 3, .iconst 1, .iadd] = true := by decide +kernel
theorem d_313_459 : decode ov_m313.2.1 459 = .ok (.iaload, 1) := by decide +kernel
theorem b_313_460_4 : ov_ds ov_m313.2.1 460 [.aload_n 0, .iload_n 3, .iconst 2, .iadd] = true := by decide +kernel
theorem d_313_464 : decode ov_m313.2.1 464 = .ok (.iaload, 1) := by decide +kernel
theorem b_313_465_4 : ov_ds ov_m313.2.1 465 [.aload_n 0, .iload_n 3, .iconst 3, .iadd] = true := by decide +kernel
theorem d_313_469 : decode ov_m313.2.1 469 = .ok (.iaload, 1) := by decide +kernel
theorem b_313_470_4 : ov_ds ov_m313.2.1 470 [.aload_n 0, .iload_n 3, .iconst 4, .iadd] = true := by decide +kernel
theorem d_313_474 : decode ov_m313.2.1 474 = .ok (.iaload, 1) := by decide +kernel
theorem d_313_475 : decode ov_m313.2.1 475 = .ok (.invokevirtual 42, 3) := by decide +kernel
theorem b_313_478_1 : ov_ds ov_m313.2.1 478 [.pop] = true := by decide +kernel
theorem d_313_479 : decode ov_m313.2.1 479 = .ok (.goto 983, 3) := by decide +kernel
theorem b_313_482_5 : ov_ds ov_m313.2.1 482 [.aload_n 1, .aload_n 0, .iload_n 3, .iconst 1, .iadd] = true := by decide +kernel
theorem d_313_487 : decode ov_m313.2.1 487 = .ok (.iaload, 1) := by decide +kernel
theorem b_313_488_4 : ov_ds ov_m313.2.1 488 [.aload_n 0, .iload_n 3, .iconst 2, .iadd] = true := by decide +kernel
theorem d_313_492 : decode ov_m313.2.1 492 = .ok (.iaload, 1) := by decide +kernel
theorem d_313_493 : decode ov_m313.2.1 493 = .ok (.ifCond .eq 7, 3) := by decide +kernel
theorem b_313_500_1 : ov_ds ov_m313.2.1 500 [.iconst 0] = true := by decide +kernel
theorem d_313_501 : decode ov_m313.2.1 501 = .ok (.invokevirtual 43, 3) := by decide +kernel
theorem b_313_504_6 : ov_ds ov_m313.2.1 504 [.pop, .aload_n 2, .aload_n 0, .iload_n 3, .iconst 1, .iadd] = true := by decide +kernel
theorem d_313_510 : decode ov_m313.2.1 510 = .ok (.iaload, 1) := by decide +kernel
theorem b_313_511_4 : ov_ds ov_m313.2.1 511 [.aload_n 0, .iload_n 3, .iconst 2, .iadd] = true := by decide +kernel
theorem d_313_515 : decode ov_m313.2.1 515 = .ok (.iaload, 1) := by decide +kernel
theorem d_313_516 : decode ov_m313.2.1 516 = .ok (.ifCond .eq 7, 3) := by decide +kernel
theorem b_313_523_1 : ov_ds ov_m313.2.1 523 [.iconst 0] = true := by decide +kernel
theorem d_313_524 : decode ov_m313.2.1 524 = .ok (.invokevirtual 47, 3) := by decide +kernel
theorem b_313_527_1 : ov_ds ov_m313.2.1 527 [.pop] = true := by decide +kernel
theorem d_313_528 : decode ov_m313.2.1 528 = .ok (.goto 934, 3) := by decide +kernel
theorem b_313_496_1 : ov_ds ov_m313.2.1 496 [.iconst 1] = true := by decide +kernel
theorem d_313_497 : decode ov_m313.2.1 497 = .ok (.goto 4, 3) := by decide +kernel
theorem b_313_519_1 : ov_ds ov_m313.2.1 519 [.iconst 1] = true := by decide +kernel
theorem d_313_520 : decode ov_m313.2.1 520 = .ok (.goto 4, 3) := by decide +kernel
theorem b_313_531_5 : ov_ds ov_m313.2.1 531 [.aload_n 1, .aload_n 0, .iload_n 3, .iconst 1, .iadd] = true := by decide +kernel
theorem d_313_536 : decode ov_m313.2.1 536 = .ok (.iaload, 1) := by decide +kernel
theorem d_313_537 : decode ov_m313.2.1 537 = .ok (.invokevirtual 48, 3) := by decide +kernel
theorem b_313_540_6 : ov_ds ov_m313.2.1 540 [.pop, .aload_n 2, .aload_n 0, .iload_n 3, .iconst 1, .iadd] = true := by decide +kernel
theorem d_313_546 : decode ov_m313.2.1 546 = .ok (.iaload, 1) := by decide +kernel
theorem d_313_547 : decode ov_m313.2.1 547 = .ok (.invokevirtual 52, 3) := by decide +kernel
theorem b_313_550_1 : ov_ds ov_m313.2.1 550 [.pop] = true := by decide +kernel
theorem d_313_551 : decode ov_m313.2.1 551 = .ok (.goto 911, 3) := by decide +kernel
theorem b_313_554_1 : ov_ds ov_m313.2.1 554 [.aload_n 1] = true := by decide +kernel
theorem d_313_555 : decode ov_m313.2.1 555 = .ok (.invokevirtual 53, 3) := by decide +kernel
theorem b_313_558_2 : ov_ds ov_m313.2.1 558 [.pop, .aload_n 2] = true := by decide +kernel
theorem d_313_560 : decode ov_m313.2.1 560 = .ok (.invokevirtual 57, 3) := by decide +kernel
theorem b_313_563_1 : ov_ds ov_m313.2.1 563 [.pop] = true := by decide +kernel
theorem d_313_564 : decode ov_m313.2.1 564 = .ok (.goto 898, 3) := by decide +kernel
theorem b_313_567_1 : ov_ds ov_m313.2.1 567 [.aload_n 1] = true := by decide +kernel
theorem d_313_568 : decode ov_m313.2.1 568 = .ok (.invokevirtual 58, 3) := by decide +kernel
theorem b_313_571_2 : ov_ds ov_m313.2.1 571 [.pop, .aload_n 2] = true := by decide +kernel
theorem d_313_573 : decode ov_m313.2.1 573 = .ok (.invokevirtual 61, 3) := by decide +kernel
theorem b_313_576_1 : ov_ds ov_m313.2.1 576 [.pop] = true := by decide +kernel
theorem d_313_577 : decode ov_m313.2.1 577 = .ok (.goto 885, 3) := by decide +kernel
theorem b_313_580_1 : ov_ds ov_m313.2.1 580 [.aload_n 1] = true := by decide +kernel
theorem d_313_581 : decode ov_m313.2.1 581 = .ok (.invokevirtual 62, 3) := by decide +kernel
theorem b_313_584_2 : ov_ds ov_m313.2.1 584 [.pop, .aload_n 2] = true := by decide +kernel
theorem d_313_586 : decode ov_m313.2.1 586 = .ok (.invokevirtual 65, 3) := by decide +kernel
theorem b_313_589_1 : ov_ds ov_m313.2.1 589 [.pop] = true := by decide +kernel
theorem d_313_590 : decode ov_m313.2.1 590 = .ok (.goto 872, 3) := by decide +kernel
theorem b_313_593_5 : ov_ds ov_m313.2.1 593 [.aload_n 1, .aload_n 0, .iload_n 3, .iconst 1, .iadd] = true := by decide +kernel
theorem d_313_598 : decode ov_m313.2.1 598 = .ok (.iaload, 1) := by decide +kernel
theorem b_313_599_4 : ov_ds ov_m313.2.1 599 [.aload_n 0, .iload_n 3, .iconst 2, .iadd] = true := by decide +kernel
theorem d_313_603 : decode ov_m313.2.1 603 = .ok (.iaload, 1) := by decide +kernel
theorem b_313_604_4 : ov_ds ov_m313.2.1 604 [.aload_n 0, .iload_n 3, .iconst 3, .iadd] = true := by decide +kernel
theorem d_313_608 : decode ov_m313.2.1 608 = .ok (.iaload, 1) := by decide +kernel
theorem b_313_609_4 : ov_ds ov_m313.2.1 609 [.aload_n 0, .iload_n 3, .iconst 4, .iadd] = true := by decide +kernel
theorem d_313_613 : decode ov_m313.2.1 613 = .ok (.iaload, 1) := by decide +kernel
theorem d_313_614 : decode ov_m313.2.1 614 = .ok (.invokevirtual 66, 3) := by decide +kernel
theorem b_313_617_6 : ov_ds ov_m313.2.1 617 [.pop, .aload_n 2, .aload_n 0, .iload_n 3, .iconst 1, .iadd] = true := by decide +kernel
theorem d_313_623 : decode ov_m313.2.1 623 = .ok (.iaload, 1) := by decide +kernel
theorem b_313_624_4 : ov_ds ov_m313.2.1 624 [.aload_n 0, .iload_n 3, .iconst 2, .iadd] = true := by decide +kernel
theorem d_313_628 : decode ov_m313.2.1 628 = .ok (.iaload, 1) := by decide +kernel
theorem b_313_629_4 : ov_ds ov_m313.2.1 629 [.aload_n 0, .iload_n 3, .iconst 3, .iadd] = true := by decide +kernel
theorem d_313_633 : decode ov_m313.2.1 633 = .ok (.iaload, 1) := by decide +kernel
theorem b_313_634_4 : ov_ds ov_m313.2.1 634 [.aload_n 0, .iload_n 3, .iconst 4, .iadd] = true := by decide +kernel
theorem d_313_638 : decode ov_m313.2.1 638 = .ok (.iaload, 1) := by decide +kernel
theorem d_313_639 : decode ov_m313.2.1 639 = .ok (.invokevirtual 69, 3) := by decide +kernel
theorem b_313_642_1 : ov_ds ov_m313.2.1 642 [.pop] = true := by decide +kernel
theorem d_313_643 : decode ov_m313.2.1 643 = .ok (.goto 819, 3) := by decide +kernel
theorem b_313_646_5 : ov_ds ov_m313.2.1 646 [.aload_n 1, .aload_n 0, .iload_n 3, .iconst 1, .iadd] = true := by decide +kernel
theorem d_313_651 : decode ov_m313.2.1 651 = .ok (.iaload, 1) := by decide +kernel
theorem b_313_652_4 : ov_ds ov_m313.2.1 652 [.aload_n 0, .iload_n 3, .iconst 2, .iadd] = true := by decide +kernel
theorem d_313_656 : decode ov_m313.2.1 656 = .ok (.iaload, 1) := by decide +kernel
theorem b_313_657_4 : ov_ds ov_m313.2.1 657 [.aload_n 0, .iload_n 3, .iconst 3, .iadd] = true := by decide +kernel
theorem d_313_661 : decode ov_m313.2.1 661 = .ok (.iaload, 1) := by decide +kernel
theorem b_313_662_4 : ov_ds ov_m313.2.1 662 [.aload_n 0, .iload_n 3, .iconst 4, .iadd] = true := by decide +kernel
theorem d_313_666 : decode ov_m313.2.1 666 = .ok (.iaload, 1) := by decide +kernel
theorem d_313_667 : decode ov_m313.2.1 667 = .ok (.invokevirtual 70, 3) := by decide +kernel
theorem b_313_670_6 : ov_ds ov_m313.2.1 670 [.pop, .aload_n 2, .aload_n 0, .iload_n 3, .iconst 1, .iadd] = true := by decide +kernel
theorem d_313_676 : decode ov_m313.2.1 676 = .ok (.iaload, 1) := by decide +kernel
theorem b_313_677_4 : ov_ds ov_m313.2.1 677 [.aload_n 0, .iload_n 3, .iconst 2, .iadd] = true := by decide +kernel
theorem d_313_681 : decode ov_m313.2.1 681 = .ok (.iaload, 1) := by decide +kernel
theorem b_313_682_4 : ov_ds ov_m313.2.1 682 [.aload_n 0, .iload_n 3, .iconst 3, .iadd] = true := by decide +kernel
theorem d_313_686 : decode ov_m313.2.1 686 = .ok (.iaload, 1) := by decide +kernel
theorem b_313_687_4 : ov_ds ov_m313.2.1 687 [.aload_n 0, .iload_n 3, .iconst 4, .iadd] = true := by decide +kernel
theorem d_313_691 : decode ov_m313.2.1 691 = .ok (.iaload, 1) := by decide +kernel
theorem d_313_692 : decode ov_m313.2.1 692 = .ok (.invokevirtual 73, 3) := by decide +kernel
theorem b_313_695_1 : ov_ds ov_m313.2.1 695 [.pop] = true := by decide +kernel
theorem d_313_696 : decode ov_m313.2.1 696 = .ok (.goto 766, 3) := by decide +kernel
theorem b_313_699_5 : ov_ds ov_m313.2.1 699 [.aload_n 1, .aload_n 0, .iload_n 3, .iconst 1, .iadd] = true := by decide +kernel
theorem d_313_704 : decode ov_m313.2.1 704 = .ok (.iaload, 1) := by decide +kernel
theorem b_313_705_4 : ov_ds ov_m313.2.1 705 [.aload_n 0, .iload_n 3, .iconst 2, .iadd] = true := by decide +kernel
theorem d_313_709 : decode ov_m313.2.1 709 = .ok (.iaload, 1) := by decide +kernel
theorem b_313_710_4 : ov_ds ov_m313.2.1 710 [.aload_n 0, .iload_n 3, .iconst 3, .iadd] = true := by decide +kernel
theorem d_313_714 : decode ov_m313.2.1 714 = .ok (.iaload, 1) := by decide +kernel
theorem b_313_715_4 : ov_ds ov_m313.2.1 715 [.aload_n 0, .iload_n 3, .iconst 4, .iadd] = true := by decide +kernel
theorem d_313_719 : decode ov_m313.2.1 719 = .ok (.iaload, 1) := by decide +kernel
theorem d_313_720 : decode ov_m313.2.1 720 = .ok (.invokevirtual 74, 3) := by decide +kernel
theorem b_313_723_6 : ov_ds ov_m313.2.1 723 [.pop, .aload_n 2, .aload_n 0, .iload_n 3, .iconst 1, .iadd] = true := by decide +kernel
theorem d_313_729 : decode ov_m313.2.1 729 = .ok (.iaload, 1) := by decide +kernel
theorem b_313_730_4 : ov_ds ov_m313.2.1 730 [.aload_n 0, .iload_n 3, .iconst 2, .iadd] = true := by decide +kernel
theorem d_313_734 : decode ov_m313.2.1 734 = .ok (.iaload, 1) := by decide +kernel
theorem b_313_735_4 : ov_ds ov_m313.2.1 735 [.aload_n 0, .iload_n 3, .iconst 3, .iadd] = true := by decide +kernel
theorem d_313_739 : decode ov_m313.2.1 739 = .ok (.iaload, 1) := by decide +kernel
theorem b_313_740_4 : ov_ds ov_m313.2.1 740 [.aload_n 0, .iload_n 3, .iconst 4, .iadd] = true := by decide +kernel
theorem d_313_744 : decode ov_m313.2.1 744 = .ok (.iaload, 1) := by decide +kernel
theorem d_313_745 : decode ov_m313.2.1 745 = .ok (.invokevirtual 77, 3) := by decide +kernel
theorem b_313_748_1 : ov_ds ov_m313.2.1 748 [.pop] = true := by decide +kernel
theorem d_313_749 : decode ov_m313.2.1 749 = .ok (.goto 713, 3) := by decide +kernel
theorem b_313_752_5 : ov_ds ov_m313.2.1 752 [.aload_n 1, .aload_n 0, .iload_n 3, .iconst 1, .iadd] = true := by decide +kernel
theorem d_313_757 : decode ov_m313.2.1 757 = .ok (.iaload, 1) := by decide +kernel
theorem b_313_758_4 : ov_ds ov_m313.2.1 758 [.aload_n 0, .iload_n 3, .iconst 2, .iadd] = true := by decide +kernel
theorem d_313_762 : decode ov_m313.2.1 762 = .ok (.iaload, 1) := by decide +kernel
theorem b_313_763_4 : ov_ds ov_m313.2.1 763 [.aload_n 0, .iload_n 3, .iconst 3, .iadd] = true := by decide +kernel
theorem d_313_767 : decode ov_m313.2.1 767 = .ok (.iaload, 1) := by decide +kernel
theorem b_313_768_4 : ov_ds ov_m313.2.1 768 [.aload_n 0, .iload_n 3, .iconst 4, .iadd] = true := by decide +kernel
theorem d_313_772 : decode ov_m313.2.1 772 = .ok (.iaload, 1) := by decide +kernel
theorem d_313_773 : decode ov_m313.2.1 773 = .ok (.invokevirtual 78, 3) := by decide +kernel
theorem b_313_776_6 : ov_ds ov_m313.2.1 776 [.pop, .aload_n 2, .aload_n 0, .iload_n 3, .iconst 1, .iadd] = true := by decide +kernel
theorem d_313_782 : decode ov_m313.2.1 782 = .ok (.iaload, 1) := by decide +kernel
theorem b_313_783_4 : ov_ds ov_m313.2.1 783 [.aload_n 0, .iload_n 3, .iconst 2, .iadd] = true := by decide +kernel
theorem d_313_787 : decode ov_m313.2.1 787 = .ok (.iaload, 1) := by decide +kernel
theorem b_313_788_4 : ov_ds ov_m313.2.1 788 [.aload_n 0, .iload_n 3, .iconst 3, .iadd] = true := by decide +kernel
theorem d_313_792 : decode ov_m313.2.1 792 = .ok (.iaload, 1) := by decide +kernel
theorem b_313_793_4 : ov_ds ov_m313.2.1 793 [.aload_n 0, .iload_n 3, .iconst 4, .iadd] = true := by decide +kernel
theorem d_313_797 : decode ov_m313.2.1 797 = .ok (.iaload, 1) := by decide +kernel
theorem d_313_798 : decode ov_m313.2.1 798 = .ok (.invokevirtual 81, 3) := by decide +kernel
theorem b_313_801_1 : ov_ds ov_m313.2.1 801 [.pop] = true := by decide +kernel
theorem d_313_802 : decode ov_m313.2.1 802 = .ok (.goto 660, 3) := by decide +kernel
theorem b_313_805_5 : ov_ds ov_m313.2.1 805 [.aload_n 1, .aload_n 0, .iload_n 3, .iconst 1, .iadd] = true := by decide +kernel
theorem d_313_810 : decode ov_m313.2.1 810 = .ok (.iaload, 1) := by decide +kernel
theorem b_313_811_4 : ov_ds ov_m313.2.1 811 [.aload_n 0, .iload_n 3, .iconst 2, .iadd] = true := by decide +kernel
theorem d_313_815 : decode ov_m313.2.1 815 = .ok (.iaload, 1) := by decide +kernel
theorem b_313_816_4 : ov_ds ov_m313.2.1 816 [.aload_n 0, .iload_n 3, .iconst 3, .iadd] = true := by decide +kernel
theorem d_313_820 : decode ov_m313.2.1 820 = .ok (.iaload, 1) := by decide +kernel
theorem d_313_821 : decode ov_m313.2.1 821 = .ok (.invokevirtual 82, 3) := by decide +kernel
theorem b_313_824_6 : ov_ds ov_m313.2.1 824 [.pop, .aload_n 2, .aload_n 0, .iload_n 3, .iconst 1, .iadd] = true := by decide +kernel
theorem d_313_830 : decode ov_m313.2.1 830 = .ok (.iaload, 1) := by decide +kernel
theorem b_313_831_4 : ov_ds ov_m313.2.1 831 [.aload_n 0, .iload_n 3, .iconst 2, .iadd] = true := by decide +kernel
theorem d_313_835 : decode ov_m313.2.1 835 = .ok (.iaload, 1) := by decide +kernel
theorem b_313_836_4 : ov_ds ov_m313.2.1 836 [.aload_n 0, .iload_n 3, .iconst 3, .iadd] = true := by decide +kernel
theorem d_313_840 : decode ov_m313.2.1 840 = .ok (.iaload, 1) := by decide +kernel
theorem d_313_841 : decode ov_m313.2.1 841 = .ok (.invokevirtual 85, 3) := by decide +kernel
theorem b_313_844_1 : ov_ds ov_m313.2.1 844 [.pop] = true := by decide +kernel
theorem d_313_845 : decode ov_m313.2.1 845 = .ok (.goto 617, 3) := by decide +kernel
theorem b_313_848_5 : ov_ds ov_m313.2.1 848 [.aload_n 1, .aload_n 0, .iload_n 3, .iconst 1, .iadd] = true := by decide +kernel
theorem d_313_853 : decode ov_m313.2.1 853 = .ok (.iaload, 1) := by decide +kernel
theorem b_313_854_4 : ov_ds ov_m313.2.1 854 [.aload_n 0, .iload_n 3, .iconst 2, .iadd] = true := by decide +kernel
theorem d_313_858 : decode ov_m313.2.1 858 = .ok (.iaload, 1) := by decide +kernel
theorem b_313_859_4 : ov_ds ov_m313.2.1 859 [.aload_n 0, .iload_n 3, .iconst 3, .iadd] = true := by decide +kernel
theorem d_313_863 : decode ov_m313.2.1 863 = .ok (.iaload, 1) := by decide +kernel
theorem d_313_864 : decode ov_m313.2.1 864 = .ok (.invokevirtual 86, 3) := by decide +kernel
theorem b_313_867_6 : ov_ds ov_m313.2.1 867 [.pop, .aload_n 2, .aload_n 0, .iload_n 3, .iconst 1, .iadd] = true := by decide +kernel
theorem d_313_873 : decode ov_m313.2.1 873 = .ok (.iaload, 1) := by decide +kernel
theorem b_313_874_4 : ov_ds ov_m313.2.1 874 [.aload_n 0, .iload_n 3, .iconst 2, .iadd] = true := by decide +kernel
theorem d_313_878 : decode ov_m313.2.1 878 = .ok (.iaload, 1) := by decide +kernel
theorem b_313_879_4 : ov_ds ov_m313.2.1 879 [.aload_n 0, .iload_n 3, .iconst 3, .iadd] = true := by decide +kernel
theorem d_313_883 : decode ov_m313.2.1 883 = .ok (.iaload, 1) := by decide +kernel
theorem d_313_884 : decode ov_m313.2.1 884 = .ok (.invokevirtual 89, 3) := by decide +kernel
theorem b_313_887_1 : ov_ds ov_m313.2.1 887 [.pop] = true := by decide +kernel
theorem d_313_888 : decode ov_m313.2.1 888 = .ok (.goto 574, 3) := by decide +kernel
theorem b_313_891_5 : ov_ds ov_m313.2.1 891 [.aload_n 1, .aload_n 0, .iload_n 3, .iconst 1, .iadd] = true := by decide +kernel
theorem d_313_896 : decode ov_m313.2.1 896 = .ok (.iaload, 1) := by decide +kernel
theorem b_313_897_4 : ov_ds ov_m313.2.1 897 [.aload_n 0, .iload_n 3, .iconst 2, .iadd] = true := by decide +kernel
theorem d_313_901 : decode ov_m313.2.1 901 = .ok (.iaload, 1) := by decide +kernel
theorem b_313_902_4 : ov_ds ov_m313.2.1 902 [.aload_n 0, .iload_n 3, .iconst 3, .iadd] = true := by decide +kernel
theorem d_313_906 : decode ov_m313.2.1 906 = .ok (.iaload, 1) := by decide +kernel
theorem d_313_907 : decode ov_m313.2.1 907 = .ok (.invokevirtual 90, 3) := by decide +kernel
theorem b_313_910_6 : ov_ds ov_m313.2.1 910 [.pop, .aload_n 2, .aload_n 0, .iload_n 3, .iconst 1, .iadd] = true := by decide +kernel
theorem d_313_916 : decode ov_m313.2.1 916 = .ok (.iaload, 1) := by decide +kernel
theorem b_313_917_4 : ov_ds ov_m313.2.1 917 [.aload_n 0, .iload_n 3, .iconst 2, .iadd] = true := by decide +kernel
theorem d_313_921 : decode ov_m313.2.1 921 = .ok (.iaload, 1) := by decide +kernel
theorem b_313_922_4 : ov_ds ov_m313.2.1 922 [.aload_n 0, .iload_n 3, .iconst 3, .iadd] = true := by decide +kernel
theorem d_313_926 : decode ov_m313.2.1 926 = .ok (.iaload, 1) := by decide +kernel
theorem d_313_927 : decode ov_m313.2.1 927 = .ok (.invokevirtual 93, 3) := by decide +kernel
theorem b_313_930_1 : ov_ds ov_m313.2.1 930 [.pop] = true := by decide +kernel
theorem d_313_931 : decode ov_m313.2.1 931 = .ok (.goto 531, 3) := by decide +kernel
theorem b_313_934_5 : ov_ds ov_m313.2.1 934 [.aload_n 1, .aload_n 0, .iload_n 3, .iconst 1, .iadd] = true := by decide +kernel
theorem d_313_939 : decode ov_m313.2.1 939 = .ok (.iaload, 1) := by decide +kernel
theorem b_313_940_4 : ov_ds ov_m313.2.1 940 [.aload_n 0, .iload_n 3, .iconst 2, .iadd] = true := by decide +kernel
theorem d_313_944 : decode ov_m313.2.1 944 = .ok (.iaload, 1) := by decide +kernel
theorem d_313_945 : decode ov_m313.2.1 945 = .ok (.invokevirtual 94, 3) := by decide +kernel
theorem b_313_948_6 : ov_ds ov_m313.2.1 948 [.pop, .aload_n 2, .aload_n 0, .iload_n 3, .iconst 1, .iadd] = true := by decide +kernel
theorem d_313_954 : decode ov_m313.2.1 954 = .ok (.iaload, 1) := by decide +kernel
theorem b_313_955_4 : ov_ds ov_m313.2.1 955 [.aload_n 0, .iload_n 3, .iconst 2, .iadd] = true := by decide +kernel
theorem d_313_959 : decode ov_m313.2.1 959 = .ok (.iaload, 1) := by decide +kernel
theorem d_313_960 : decode ov_m313.2.1 960 = .ok (.invokevirtual 98, 3) := by decide +kernel
theorem b_313_963_1 : ov_ds ov_m313.2.1 963 [.pop] = true := by decide +kernel
theorem d_313_964 : decode ov_m313.2.1 964 = .ok (.goto 498, 3) := by decide +kernel
theorem b_313_967_5 : ov_ds ov_m313.2.1 967 [.aload_n 1, .aload_n 0, .iload_n 3, .iconst 1, .iadd] = true := by decide +kernel
theorem d_313_972 : decode ov_m313.2.1 972 = .ok (.iaload, 1) := by decide +kernel
theorem d_313_973 : decode ov_m313.2.1 973 = .ok (.invokevirtual 99, 3) := by decide +kernel
theorem b_313_976_6 : ov_ds ov_m313.2.1 976 [.pop, .aload_n 2, .aload_n 0, .iload_n 3, .iconst 1, .iadd] = true := by decide +kernel
theorem d_313_982 : decode ov_m313.2.1 982 = .ok (.iaload, 1) := by decide +kernel
theorem d_313_983 : decode ov_m313.2.1 983 = .ok (.invokevirtual 102, 3) := by decide +kernel
theorem b_313_986_1 : ov_ds ov_m313.2.1 986 [.pop] = true := by decide +kernel
theorem d_313_987 : decode ov_m313.2.1 987 = .ok (.goto 475, 3) := by decide +kernel
theorem b_313_990_5 : ov_ds ov_m313.2.1 990 [.aload_n 1, .aload_n 0, .iload_n 3, .iconst 1, .iadd] = true := by decide +kernel
theorem d_313_995 : decode ov_m313.2.1 995 = .ok (.iaload, 1) := by decide +kernel
theorem b_313_996_4 : ov_ds ov_m313.2.1 996 [.aload_n 0, .iload_n 3, .iconst 2, .iadd] = true := by decide +kernel
theorem d_313_1000 : decode ov_m313.2.1 1000 = .ok (.iaload, 1) := by decide +kernel
theorem b_313_1001_4 : ov_ds ov_m313.2.1 1001 [.aload_n 0, .iload_n 3, .iconst 3, .iadd] = true := by decide +kernel
theorem d_313_1005 : decode ov_m313.2.1 1005 = .ok (.iaload, 1) := by decide +kernel
theorem d_313_1006 : decode ov_m313.2.1 1006 = .ok (.invokevirtual 103, 3) := by decide +kernel
theorem b_313_1009_6 : ov_ds ov_m313.2.1 1009 [.pop, .aload_n 2, .aload_n 0, .iload_n 3, .iconst 1, .iadd] = true := by decide +kernel
theorem d_313_1015 : decode ov_m313.2.1 1015 = .ok (.iaload, 1) := by decide +kernel
theorem b_313_1016_4 : ov_ds ov_m313.2.1 1016 [.aload_n 0, .iload_n 3, .iconst 2, .iadd] = true := by decide +kernel
theorem d_313_1020 : decode ov_m313.2.1 1020 = .ok (.iaload, 1) := by decide +kernel
theorem b_313_1021_4 : ov_ds ov_m313.2.1 1021 [.aload_n 0, .iload_n 3, .iconst 3, .iadd] = true := by decide +kernel
theorem d_313_1025 : decode ov_m313.2.1 1025 = .ok (.iaload, 1) := by decide +kernel
theorem d_313_1026 : decode ov_m313.2.1 1026 = .ok (.invokevirtual 106, 3) := by decide +kernel
theorem b_313_1029_1 : ov_ds ov_m313.2.1 1029 [.pop] = true := by decide +kernel
theorem d_313_1030 : decode ov_m313.2.1 1030 = .ok (.goto 432, 3) := by decide +kernel
theorem b_313_1033_5 : ov_ds ov_m313.2.1 1033 [.aload_n 1, .aload_n 0, .iload_n 3, .iconst 1, .iadd] = true := by decide +kernel
theorem d_313_1038 : decode ov_m313.2.1 1038 = .ok (.iaload, 1) := by decide +kernel
theorem b_313_1039_4 : ov_ds ov_m313.2.1 1039 [.aload_n 0, .iload_n 3, .iconst 2, .iadd] = true := by decide +kernel
theorem d_313_1043 : decode ov_m313.2.1 1043 = .ok (.iaload, 1) := by decide +kernel
theorem d_313_1044 : decode ov_m313.2.1 1044 = .ok (.invokevirtual 107, 3) := by decide +kernel
theorem b_313_1047_6 : ov_ds ov_m313.2.1 1047 [.pop, .aload_n 2, .aload_n 0, .iload_n 3, .iconst 1, .iadd] = true := by decide +kernel
theorem d_313_1053 : decode ov_m313.2.1 1053 = .ok (.iaload, 1) := by decide +kernel
theorem b_313_1054_4 : ov_ds ov_m313.2.1 1054 [.aload_n 0, .iload_n 3, .iconst 2, .iadd] = true := by decide +kernel
theorem d_313_1058 : decode ov_m313.2.1 1058 = .ok (.iaload, 1) := by decide +kernel
theorem d_313_1059 : decode ov_m313.2.1 1059 = .ok (.invokevirtual 110, 3) := by decide +kernel
theorem b_313_1062_1 : ov_ds ov_m313.2.1 1062 [.pop] = true := by decide +kernel
theorem d_313_1063 : decode ov_m313.2.1 1063 = .ok (.goto 399, 3) := by decide +kernel
theorem b_313_1066_5 : ov_ds ov_m313.2.1 1066 [.aload_n 1, .aload_n 0, .iload_n 3, .iconst 1, .iadd] = true := by decide +kernel
theorem d_313_1071 : decode ov_m313.2.1 1071 = .ok (.iaload, 1) := by decide +kernel
theorem b_313_1072_4 : ov_ds ov_m313.2.1 1072 [.aload_n 0, .iload_n 3, .iconst 2, .iadd] = true := by decide +kernel
theorem d_313_1076 : decode ov_m313.2.1 1076 = .ok (.iaload, 1) := by decide +kernel
theorem b_313_1077_4 : ov_ds ov_m313.2.1 1077 [.aload_n 0, .iload_n 3, .iconst 3, .iadd] = true := by decide +kernel
theorem d_313_1081 : decode ov_m313.2.1 1081 = .ok (.iaload, 1) := by decide +kernel
theorem d_313_1082 : decode ov_m313.2.1 1082 = .ok (.ifCond .eq 7, 3) := by decide +kernel
theorem b_313_1089_5 : ov_ds ov_m313.2.1 1089 [.iconst 0, .aload_n 0, .iload_n 3, .iconst 4, .iadd] = true := by decide +kernel
theorem d_313_1094 : decode ov_m313.2.1 1094 = .ok (.iaload, 1) := by decide +kernel
theorem d_313_1095 : decode ov_m313.2.1 1095 = .ok (.invokevirtual 111, 3) := by decide +kernel
theorem b_313_1098_6 : ov_ds ov_m313.2.1 1098 [.pop, .aload_n 2, .aload_n 0, .iload_n 3, .iconst 1, .iadd] = true := by decide +kernel
theorem d_313_1104 : decode ov_m313.2.1 1104 = .ok (.iaload, 1) := by decide +kernel
theorem b_313_1105_4 : ov_ds ov_m313.2.1 1105 [.aload_n 0, .iload_n 3, .iconst 2, .iadd] = true := by decide +kernel
theorem d_313_1109 : decode ov_m313.2.1 1109 = .ok (.iaload, 1) := by decide +kernel
theorem b_313_1110_4 : ov_ds ov_m313.2.1 1110 [.aload_n 0, .iload_n 3, .iconst 3, .iadd] = true := by decide +kernel
theorem d_313_1114 : decode ov_m313.2.1 1114 = .ok (.iaload, 1) := by decide +kernel
theorem d_313_1115 : decode ov_m313.2.1 1115 = .ok (.ifCond .eq 7, 3) := by decide +kernel
theorem b_313_1122_5 : ov_ds ov_m313.2.1 1122 [.iconst 0, .aload_n 0, .iload_n 3, .iconst 4, .iadd] = true := by decide +kernel
theorem d_313_1127 : decode ov_m313.2.1 1127 = .ok (.iaload, 1) := by decide +kernel
theorem d_313_1128 : decode ov_m313.2.1 1128 = .ok (.invokevirtual 115, 3) := by decide +kernel
theorem b_313_1131_1 : ov_ds ov_m313.2.1 1131 [.pop] = true := by decide +kernel
theorem d_313_1132 : decode ov_m313.2.1 1132 = .ok (.goto 330, 3) := by decide +kernel
theorem b_313_1085_1 : ov_ds ov_m313.2.1 1085 [.iconst 1] = true := by decide +kernel
theorem d_313_1086 : decode ov_m313.2.1 1086 = .ok (.goto 4, 3) := by decide +kernel
theorem b_313_1090_4 : ov_ds ov_m313.2.1 1090 [.aload_n 0, .iload_n 3, .iconst 4, .iadd] = true := by decide +kernel
theorem b_313_1118_1 : ov_ds ov_m313.2.1 1118 [.iconst 1] = true := by decide +kernel
theorem d_313_1119 : decode ov_m313.2.1 1119 = .ok (.goto 4, 3) := by decide +kernel
theorem b_313_1123_4 : ov_ds ov_m313.2.1 1123 [.aload_n 0, .iload_n 3, .iconst 4, .iadd] = true := by decide +kernel
theorem b_313_1135_5 : ov_ds ov_m313.2.1 1135 [.aload_n 1, .aload_n 0, .iload_n 3, .iconst 1, .iadd] = true := by decide +kernel
theorem d_313_1140 : decode ov_m313.2.1 1140 = .ok (.iaload, 1) := by decide +kernel
theorem b_313_1141_4 : ov_ds ov_m313.2.1 1141 [.aload_n 0, .iload_n 3, .iconst 2, .iadd] = true := by decide +kernel
theorem d_313_1145 : decode ov_m313.2.1 1145 = .ok (.iaload, 1) := by decide +kernel
theorem b_313_1146_4 : ov_ds ov_m313.2.1 1146 [.aload_n 0, .iload_n 3, .iconst 3, .iadd] = true := by decide +kernel
theorem d_313_1150 : decode ov_m313.2.1 1150 = .ok (.iaload, 1) := by decide +kernel
theorem d_313_1151 : decode ov_m313.2.1 1151 = .ok (.invokevirtual 116, 3) := by decide +kernel
theorem b_313_1154_6 : ov_ds ov_m313.2.1 1154 [.pop2, .aload_n 2, .aload_n 0, .iload_n 3, .iconst 1, .iadd] = true := by decide +kernel
theorem d_313_1160 : decode ov_m313.2.1 1160 = .ok (.iaload, 1) := by decide +kernel
theorem b_313_1161_4 : ov_ds ov_m313.2.1 1161 [.aload_n 0, .iload_n 3, .iconst 2, .iadd] = true := by decide +kernel
theorem d_313_1165 : decode ov_m313.2.1 1165 = .ok (.iaload, 1) := by decide +kernel
theorem b_313_1166_4 : ov_ds ov_m313.2.1 1166 [.aload_n 0, .iload_n 3, .iconst 3, .iadd] = true := by decide +kernel
theorem d_313_1170 : decode ov_m313.2.1 1170 = .ok (.iaload, 1) := by decide +kernel
theorem d_313_1171 : decode ov_m313.2.1 1171 = .ok (.invokevirtual 120, 3) := by decide +kernel
theorem b_313_1174_1 : ov_ds ov_m313.2.1 1174 [.pop2] = true := by decide +kernel
theorem d_313_1175 : decode ov_m313.2.1 1175 = .ok (.goto 287, 3) := by decide +kernel
theorem b_313_1178_5 : ov_ds ov_m313.2.1 1178 [.aload_n 1, .aload_n 0, .iload_n 3, .iconst 1, .iadd] = true := by decide +kernel
theorem d_313_1183 : decode ov_m313.2.1 1183 = .ok (.iaload, 1) := by decide +kernel
theorem b_313_1184_4 : ov_ds ov_m313.2.1 1184 [.aload_n 0, .iload_n 3, .iconst 2, .iadd] = true := by decide +kernel
theorem d_313_1188 : decode ov_m313.2.1 1188 = .ok (.iaload, 1) := by decide +kernel
theorem b_313_1189_4 : ov_ds ov_m313.2.1 1189 [.aload_n 0, .iload_n 3, .iconst 3, .iadd] = true := by decide +kernel
theorem d_313_1193 : decode ov_m313.2.1 1193 = .ok (.iaload, 1) := by decide +kernel
theorem b_313_1194_4 : ov_ds ov_m313.2.1 1194 [.aload_n 0, .iload_n 3, .iconst 4, .iadd] = true := by decide +kernel
theorem d_313_1198 : decode ov_m313.2.1 1198 = .ok (.iaload, 1) := by decide +kernel
theorem d_313_1199 : decode ov_m313.2.1 1199 = .ok (.ifCond .eq 7, 3) := by decide +kernel
theorem b_313_1206_5 : ov_ds ov_m313.2.1 1206 [.iconst 0, .aload_n 0, .iload_n 3, .iconst 5, .iadd] = true := by decide +kernel
theorem d_313_1211 : decode ov_m313.2.1 1211 = .ok (.iaload, 1) := by decide +kernel
theorem d_313_1212 : decode ov_m313.2.1 1212 = .ok (.invokevirtual 121, 3) := by decide +kernel
theorem b_313_1215_6 : ov_ds ov_m313.2.1 1215 [.pop, .aload_n 2, .aload_n 0, .iload_n 3, .iconst 1, .iadd] = true := by decide +kernel
theorem d_313_1221 : decode ov_m313.2.1 1221 = .ok (.iaload, 1) := by decide +kernel
theorem b_313_1222_4 : ov_ds ov_m313.2.1 1222 [.aload_n 0, .iload_n 3, .iconst 2, .iadd] = true := by decide +kernel
theorem d_313_1226 : decode ov_m313.2.1 1226 = .ok (.iaload, 1) := by decide +kernel
theorem b_313_1227_4 : ov_ds ov_m313.2.1 1227 [.aload_n 0, .iload_n 3, .iconst 3, .iadd] = true := by decide +kernel
theorem d_313_1231 : decode ov_m313.2.1 1231 = .ok (.iaload, 1) := by decide +kernel
theorem b_313_1232_4 : ov_ds ov_m313.2.1 1232 [.aload_n 0, .iload_n 3, .iconst 4, .iadd] = true := by decide +kernel
theorem d_313_1236 : decode ov_m313.2.1 1236 = .ok (.iaload, 1) := by decide +kernel
theorem d_313_1237 : decode ov_m313.2.1 1237 = .ok (.ifCond .eq 7, 3) := by decide +kernel
theorem b_313_1244_5 : ov_ds ov_m313.2.1 1244 [.iconst 0, .aload_n 0, .iload_n 3, .iconst 5, .iadd] = true := by decide +kernel
theorem d_313_1249 : decode ov_m313.2.1 1249 = .ok (.iaload, 1) := by decide +kernel
theorem d_313_1250 : decode ov_m313.2.1 1250 = .ok (.invokevirtual 125, 3) := by decide +kernel
theorem b_313_1253_1 : ov_ds ov_m313.2.1 1253 [.pop] = true := by decide +kernel
theorem d_313_1254 : decode ov_m313.2.1 1254 = .ok (.goto 208, 3) := by decide +kernel
theorem b_313_1202_1 : ov_ds ov_m313.2.1 1202 [.iconst 1] = true := by decide +kernel
theorem d_313_1203 : decode ov_m313.2.1 1203 = .ok (.goto 4, 3) := by decide +kernel
theorem b_313_1207_4 : ov_ds ov_m313.2.1 1207 [.aload_n 0, .iload_n 3, .iconst 5, .iadd] = true := by decide +kernel
theorem b_313_1240_1 : ov_ds ov_m313.2.1 1240 [.iconst 1] = true := by decide +kernel
theorem d_313_1241 : decode ov_m313.2.1 1241 = .ok (.goto 4, 3) := by decide +kernel
theorem b_313_1245_4 : ov_ds ov_m313.2.1 1245 [.aload_n 0, .iload_n 3, .iconst 5, .iadd] = true := by decide +kernel
theorem b_313_1257_1 : ov_ds ov_m313.2.1 1257 [.aload_n 1] = true := by decide +kernel
theorem d_313_1258 : decode ov_m313.2.1 1258 = .ok (.invokevirtual 126, 3) := by decide +kernel
theorem b_313_1261_2 : ov_ds ov_m313.2.1 1261 [.pop, .aload_n 2] = true := by decide +kernel
theorem d_313_1263 : decode ov_m313.2.1 1263 = .ok (.invokevirtual 129, 3) := by decide +kernel
theorem b_313_1266_1 : ov_ds ov_m313.2.1 1266 [.pop] = true := by decide +kernel
theorem d_313_1267 : decode ov_m313.2.1 1267 = .ok (.goto 195, 3) := by decide +kernel
theorem b_313_1270_5 : ov_ds ov_m313.2.1 1270 [.aload_n 1, .aload_n 0, .iload_n 3, .iconst 1, .iadd] = true := by decide +kernel
theorem d_313_1275 : decode ov_m313.2.1 1275 = .ok (.iaload, 1) := by decide +kernel
theorem b_313_1276_4 : ov_ds ov_m313.2.1 1276 [.aload_n 0, .iload_n 3, .iconst 2, .iadd] = true := by decide +kernel
theorem d_313_1280 : decode ov_m313.2.1 1280 = .ok (.iaload, 1) := by decide +kernel
theorem b_313_1281_4 : ov_ds ov_m313.2.1 1281 [.aload_n 0, .iload_n 3, .iconst 3, .iadd] = true := by decide +kernel
theorem d_313_1285 : decode ov_m313.2.1 1285 = .ok (.iaload, 1) := by decide +kernel
theorem d_313_1286 : decode ov_m313.2.1 1286 = .ok (.invokevirtual 130, 3) := by decide +kernel
theorem b_313_1289_6 : ov_ds ov_m313.2.1 1289 [.pop, .aload_n 2, .aload_n 0, .iload_n 3, .iconst 1, .iadd] = true := by decide +kernel
theorem d_313_1295 : decode ov_m313.2.1 1295 = .ok (.iaload, 1) := by decide +kernel
theorem b_313_1296_4 : ov_ds ov_m313.2.1 1296 [.aload_n 0, .iload_n 3, .iconst 2, .iadd] = true := by decide +kernel
theorem d_313_1300 : decode ov_m313.2.1 1300 = .ok (.iaload, 1) := by decide +kernel
theorem b_313_1301_4 : ov_ds ov_m313.2.1 1301 [.aload_n 0, .iload_n 3, .iconst 3, .iadd] = true := by decide +kernel
theorem d_313_1305 : decode ov_m313.2.1 1305 = .ok (.iaload, 1) := by decide +kernel
theorem d_313_1306 : decode ov_m313.2.1 1306 = .ok (.invokevirtual 134, 3) := by decide +kernel
theorem b_313_1309_1 : ov_ds ov_m313.2.1 1309 [.pop] = true := by decide +kernel
theorem d_313_1310 : decode ov_m313.2.1 1310 = .ok (.goto 152, 3) := by decide +kernel
theorem b_313_1313_5 : ov_ds ov_m313.2.1 1313 [.aload_n 1, .aload_n 0, .iload_n 3, .iconst 1, .iadd] = true := by decide +kernel
theorem d_313_1318 : decode ov_m313.2.1 1318 = .ok (.iaload, 1) := by decide +kernel
theorem d_313_1319 : decode ov_m313.2.1 1319 = .ok (.invokevirtual 135, 3) := by decide +kernel
theorem b_313_1322_5 : ov_ds ov_m313.2.1 1322 [.aload_n 2, .aload_n 0, .iload_n 3, .iconst 1, .iadd] = true := by decide +kernel
theorem d_313_1327 : decode ov_m313.2.1 1327 = .ok (.iaload, 1) := by decide +kernel
theorem d_313_1328 : decode ov_m313.2.1 1328 = .ok (.invokevirtual 139, 3) := by decide +kernel
theorem b_313_1331_1 : ov_ds ov_m313.2.1 1331 [.lcmp] = true := by decide +kernel
theorem d_313_1332 : decode ov_m313.2.1 1332 = .ok (.ifCond .eq 130, 3) := by decide +kernel
theorem b_313_1337_5 : ov_ds ov_m313.2.1 1337 [.aload_n 1, .aload_n 0, .iload_n 3, .iconst 1, .iadd] = true := by decide +kernel
theorem d_313_1342 : decode ov_m313.2.1 1342 = .ok (.iaload, 1) := by decide +kernel
theorem b_313_1343_4 : ov_ds ov_m313.2.1 1343 [.aload_n 0, .iload_n 3, .iconst 2, .iadd] = true := by decide +kernel
theorem d_313_1347 : decode ov_m313.2.1 1347 = .ok (.iaload, 1) := by decide +kernel
theorem b_313_1348_4 : ov_ds ov_m313.2.1 1348 [.aload_n 0, .iload_n 3, .iconst 3, .iadd] = true := by decide +kernel
theorem d_313_1352 : decode ov_m313.2.1 1352 = .ok (.iaload, 1) := by decide +kernel
theorem b_313_1353_4 : ov_ds ov_m313.2.1 1353 [.aload_n 0, .iload_n 3, .iconst 4, .iadd] = true := by decide +kernel
theorem d_313_1357 : decode ov_m313.2.1 1357 = .ok (.iaload, 1) := by decide +kernel
theorem d_313_1358 : decode ov_m313.2.1 1358 = .ok (.invokevirtual 140, 3) := by decide +kernel
theorem b_313_1361_6 : ov_ds ov_m313.2.1 1361 [.pop, .aload_n 2, .aload_n 0, .iload_n 3, .iconst 1, .iadd] = true := by decide +kernel
theorem d_313_1367 : decode ov_m313.2.1 1367 = .ok (.iaload, 1) := by decide +kernel
theorem b_313_1368_4 : ov_ds ov_m313.2.1 1368 [.aload_n 0, .iload_n 3, .iconst 2, .iadd] = true := by decide +kernel
theorem d_313_1372 : decode ov_m313.2.1 1372 = .ok (.iaload, 1) := by decide +kernel
theorem b_313_1373_4 : ov_ds ov_m313.2.1 1373 [.aload_n 0, .iload_n 3, .iconst 3, .iadd] = true := by decide +kernel
theorem d_313_1377 : decode ov_m313.2.1 1377 = .ok (.iaload, 1) := by decide +kernel
theorem b_313_1378_4 : ov_ds ov_m313.2.1 1378 [.aload_n 0, .iload_n 3, .iconst 4, .iadd] = true := by decide +kernel
theorem d_313_1382 : decode ov_m313.2.1 1382 = .ok (.iaload, 1) := by decide +kernel
theorem d_313_1383 : decode ov_m313.2.1 1383 = .ok (.invokevirtual 143, 3) := by decide +kernel
theorem b_313_1386_1 : ov_ds ov_m313.2.1 1386 [.pop] = true := by decide +kernel
theorem d_313_1387 : decode ov_m313.2.1 1387 = .ok (.goto 75, 3) := by decide +kernel
theorem b_313_1390_5 : ov_ds ov_m313.2.1 1390 [.aload_n 1, .aload_n 0, .iload_n 3, .iconst 1, .iadd] = true := by decide +kernel
theorem d_313_1395 : decode ov_m313.2.1 1395 = .ok (.iaload, 1) := by decide +kernel
theorem b_313_1396_4 : ov_ds ov_m313.2.1 1396 [.aload_n 0, .iload_n 3, .iconst 2, .iadd] = true := by decide +kernel
theorem d_313_1400 : decode ov_m313.2.1 1400 = .ok (.iaload, 1) := by decide +kernel
theorem d_313_1401 : decode ov_m313.2.1 1401 = .ok (.ifCond .eq 7, 3) := by decide +kernel
theorem b_313_1408_1 : ov_ds ov_m313.2.1 1408 [.iconst 0] = true := by decide +kernel
theorem d_313_1409 : decode ov_m313.2.1 1409 = .ok (.invokevirtual 144, 3) := by decide +kernel
theorem b_313_1412_6 : ov_ds ov_m313.2.1 1412 [.pop, .aload_n 2, .aload_n 0, .iload_n 3, .iconst 1, .iadd] = true := by decide +kernel
theorem d_313_1418 : decode ov_m313.2.1 1418 = .ok (.iaload, 1) := by decide +kernel
theorem b_313_1419_4 : ov_ds ov_m313.2.1 1419 [.aload_n 0, .iload_n 3, .iconst 2, .iadd] = true := by decide +kernel
theorem d_313_1423 : decode ov_m313.2.1 1423 = .ok (.iaload, 1) := by decide +kernel
theorem d_313_1424 : decode ov_m313.2.1 1424 = .ok (.ifCond .eq 7, 3) := by decide +kernel
theorem b_313_1431_1 : ov_ds ov_m313.2.1 1431 [.iconst 0] = true := by decide +kernel
theorem d_313_1432 : decode ov_m313.2.1 1432 = .ok (.invokevirtual 148, 3) := by decide +kernel
theorem b_313_1435_1 : ov_ds ov_m313.2.1 1435 [.pop] = true := by decide +kernel
theorem d_313_1436 : decode ov_m313.2.1 1436 = .ok (.goto 26, 3) := by decide +kernel
theorem b_313_1404_1 : ov_ds ov_m313.2.1 1404 [.iconst 1] = true := by decide +kernel
theorem d_313_1405 : decode ov_m313.2.1 1405 = .ok (.goto 4, 3) := by decide +kernel
theorem b_313_1427_1 : ov_ds ov_m313.2.1 1427 [.iconst 1] = true := by decide +kernel
theorem d_313_1428 : decode ov_m313.2.1 1428 = .ok (.goto 4, 3) := by decide +kernel
theorem b_313_1439_5 : ov_ds ov_m313.2.1 1439 [.aload_n 1, .aload_n 0, .iload_n 3, .iconst 1, .iadd] = true := by decide +kernel
theorem d_313_1444 : decode ov_m313.2.1 1444 = .ok (.iaload, 1) := by decide +kernel
theorem d_313_1445 : decode ov_m313.2.1 1445 = .ok (.invokevirtual 149, 3) := by decide +kernel
theorem b_313_1448_6 : ov_ds ov_m313.2.1 1448 [.pop, .aload_n 2, .aload_n 0, .iload_n 3, .iconst 1, .iadd] = true := by decide +kernel
theorem d_313_1454 : decode ov_m313.2.1 1454 = .ok (.iaload, 1) := by decide +kernel
theorem d_313_1455 : decode ov_m313.2.1 1455 = .ok (.invokevirtual 152, 3) := by decide +kernel
theorem b_313_1458_1 : ov_ds ov_m313.2.1 1458 [.pop] = true := by decide +kernel
theorem d_313_1459 : decode ov_m313.2.1 1459 = .ok (.goto 3, 3) := by decide +kernel
theorem b_313_18_2 : ov_ds ov_m313.2.1 18 [.iload_n 3, .aload_n 0] = true := by decide +kernel
theorem d_313_20 : decode ov_m313.2.1 20 = .ok (.arraylength, 1) := by decide +kernel
theorem b_313_21_2 : ov_ds ov_m313.2.1 21 [.bipush 7, .isub] = true := by decide +kernel
theorem d_313_24 : decode ov_m313.2.1 24 = .ok (.if_icmp .gt 1444, 3) := by decide +kernel
theorem b_313_1468_1 : ov_ds ov_m313.2.1 1468 [.iconst 1] = true := by decide +kernel
theorem d_313_1469 : decode ov_m313.2.1 1469 = .ok (.ireturn, 1) := by decide +kernel
theorem b_313_1462_1 : ov_ds ov_m313.2.1 1462 [.iinc 3 7] = true := by decide +kernel
theorem d_313_1465 : decode ov_m313.2.1 1465 = .ok (.goto (-1447), 3) := by decide +kernel
theorem b_313_27_2 : ov_ds ov_m313.2.1 27 [.aload_n 0, .iload_n 3] = true := by decide +kernel
theorem d_313_29 : decode ov_m313.2.1 29 = .ok (.iaload, 1) := by decide +kernel
theorem b_313_30_2 : ov_ds ov_m313.2.1 30 [.bipush 31, .iand] = true := by decide +kernel
theorem d_313_33 : decode ov_m313.2.1 33 = .ok (.tableswitch 1429 0 30 #[139, 274, 287, 300, 343, 396, 449, 498, 521, 534, 547, 560, 613, 666, 719, 772, 815, 858, 901, 934, 957, 1000, 1033, 1102, 1145, 1224, 1237, 1280, 1304, 1357, 1406], 139) := by decide +kernel
theorem d_313_0 : decode ov_m313.2.1 0 = .ok (.new 7, 3) := by decide +kernel
theorem d_313_4 : decode ov_m313.2.1 4 = .ok (.invokespecial 9, 3) := by decide +kernel
theorem d_313_8 : decode ov_m313.2.1 8 = .ok (.new 10, 3) := by decide +kernel
theorem d_313_12 : decode ov_m313.2.1 12 = .ok (.invokespecial 12, 3) := by decide +kernel
theorem b_313_3_1 : ov_ds ov_m313.2.1 3 [.dup] = true := by decide +kernel
theorem b_313_7_1 : ov_ds ov_m313.2.1 7 [.astore_n 1] = true := by decide +kernel
theorem b_313_11_1 : ov_ds ov_m313.2.1 11 [.dup] = true := by decide +kernel
theorem b_313_15_3 : ov_ds ov_m313.2.1 15 [.astore_n 2, .iconst 0, .istore_n 3] = true := by decide +kernel

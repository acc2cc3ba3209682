theorem in_X7 : ∀ w ∈ u_ws RX7 TX7 19, w ∈ TB := in_gen [259, 261, 263, 265, 267, 269, 271, 273, 275, 277, 279, 281, 283, 285, 287, 289, 291, 293, 295] (by decide +kernel)
theorem sh_X7_findings {p : Nat} (h : kd p = 7) : kd (p + 50) = 10 ∧ ln (p + 50) = 6 := sh_gen (c := 7) (P := fun p => kd (p + 50) = 10 ∧ ln (p + 50) = 6) (by decide) (by decide +kernel) h
theorem sh_X7_rows {p : Nat} (h : kd p = 7) : kd (p + 1) = 14 ∧ ln (p + 1) = 6 := sh_gen (c := 7) (P := fun p => kd (p + 1) = 14 ∧ ln (p + 1) = 6) (by decide) (by decide +kernel) h
theorem sh_X7_texts {p : Nat} (h : kd p = 7) : kd (p + 2) = 16 ∧ ln (p + 2) = 4 := sh_gen (c := 7) (P := fun p => kd (p + 2) = 16 ∧ ln (p + 2) = 4) (by decide) (by decide +kernel) h
theorem sh_X7_slabs {p : Nat} (h : kd p = 7) : kd (p + 3) = 15 ∧ ln (p + 3) = 4 := sh_gen (c := 7) (P := fun p => kd (p + 3) = 15 ∧ ln (p + 3) = 4) (by decide) (by decide +kernel) h
theorem sh_X7_plans {p : Nat} (h : kd p = 7) : kd (p + 4) = 13 ∧ ln (p + 4) = 4 := sh_gen (c := 7) (P := fun p => kd (p + 4) = 13 ∧ ln (p + 4) = 4) (by decide) (by decide +kernel) h
theorem sh_X7_kept {p : Nat} (h : kd p = 7) : kd (p + 16) = 12 ∧ ln (p + 16) = 3 := sh_gen (c := 7) (P := fun p => kd (p + 16) = 12 ∧ ln (p + 16) = 3) (by decide) (by decide +kernel) h
theorem sh_X7_dish {p : Nat} (h : kd p = 7) : kd (p + 5) = 0 := sh_gen (c := 7) (P := fun p => kd (p + 5) = 0) (by decide) (by decide +kernel) h
theorem sh_X7_trial {p : Nat} (h : kd p = 7) : kd (p + 17) = 0 := sh_gen (c := 7) (P := fun p => kd (p + 17) = 0) (by decide) (by decide +kernel) h
theorem sh_X7_second {p : Nat} (h : kd p = 7) : kd (p + 28) = 0 := sh_gen (c := 7) (P := fun p => kd (p + 28) = 0) (by decide) (by decide +kernel) h
theorem sh_X7_reader {p : Nat} (h : kd p = 7) : kd (p + 39) = 3 := sh_gen (c := 7) (P := fun p => kd (p + 39) = 3) (by decide) (by decide +kernel) h
theorem sh_X7_ticksByThick {p : Nat} (h : kd p = 7) : kd (p + 49) = 10 ∧ ln (p + 49) = 21 := sh_gen (c := 7) (P := fun p => kd (p + 49) = 10 ∧ ln (p + 49) = 21) (by decide) (by decide +kernel) h
theorem sh_X7_fire {p : Nat} (h : kd p = 7) : kd (p + 45) = 1 := sh_gen (c := 7) (P := fun p => kd (p + 45) = 1) (by decide) (by decide +kernel) h
theorem sh_X7_unlike {p : Nat} (h : kd p = 7) : kd (p + 48) = 10 ∧ ln (p + 48) = 16 := sh_gen (c := 7) (P := fun p => kd (p + 48) = 10 ∧ ln (p + 48) = 16) (by decide) (by decide +kernel) h
theorem tw_0 : Cond.selects RX7 yX7_planAt yX7_planAt ∈ TB := TB_mem 0 (by decide +kernel) (by decide +kernel)
theorem tw_1 : Cond.selects RX7 yX7_textAt yX7_textAt ∈ TB := TB_mem 1 (by decide +kernel) (by decide +kernel)
theorem tw_2 : Cond.selects RX7 yX7_found yX7_found ∈ TB := TB_mem 2 (by decide +kernel) (by decide +kernel)
theorem tw_6 : Cond.selects RX7 yX7_slabAt yX7_slabAt ∈ TB := TB_mem 6 (by decide +kernel) (by decide +kernel)
theorem tw_11 : Cond.selects RX7 yX7_told yX7_told ∈ TB := TB_mem 11 (by decide +kernel) (by decide +kernel)
theorem tw_12 : Cond.selects RX7 yX7_rowAt yX7_rowAt ∈ TB := TB_mem 12 (by decide +kernel) (by decide +kernel)
theorem tw_13 : Cond.selects RX7 yX7_leastUnlike yX7_leastUnlike ∈ TB := TB_mem 13 (by decide +kernel) (by decide +kernel)
theorem tw_14 : Cond.selects RX7 yX7_tellFraction yX7_tellFraction ∈ TB := TB_mem 14 (by decide +kernel) (by decide +kernel)
theorem tw_15 : Cond.selects RX7 yX7_slabsThere yX7_slabsThere ∈ TB := TB_mem 15 (by decide +kernel) (by decide +kernel)
theorem tw_16 : Cond.selects RX7 yX7_plansThere yX7_plansThere ∈ TB := TB_mem 16 (by decide +kernel) (by decide +kernel)
theorem tw_17 : Cond.selects RX7 yX7_skinsOf yX7_skinsOf ∈ TB := TB_mem 17 (by decide +kernel) (by decide +kernel)
theorem tw_18 : Cond.selects RX7 yX7_dishesKept yX7_dishesKept ∈ TB := TB_mem 18 (by decide +kernel) (by decide +kernel)
theorem tw_19 : Cond.selects RX7 yX7_rowsThere yX7_rowsThere ∈ TB := TB_mem 19 (by decide +kernel) (by decide +kernel)
theorem tw_20 : Cond.selects RX7 yX7_textsThere yX7_textsThere ∈ TB := TB_mem 20 (by decide +kernel) (by decide +kernel)
theorem tw_22 : Cond.selects RX7 yX7_hasBoth yX7_hasBoth ∈ TB := TB_mem 22 (by decide +kernel) (by decide +kernel)
theorem tw_23 : Cond.selects RX7 yX7_tellLosses yX7_tellLosses ∈ TB := TB_mem 23 (by decide +kernel) (by decide +kernel)
theorem tw_24 : Cond.selects RX7 yX7_ticksOf yX7_ticksOf ∈ TB := TB_mem 24 (by decide +kernel) (by decide +kernel)
theorem tw_70 : Cond.fieldLink RX7 190 RX2 "there" "Z" ∈ TB := TB_mem 70 (by decide +kernel) (by decide +kernel)
theorem tw_73 : Cond.fieldLink RX7 177 RX2 "count" "I" ∈ TB := TB_mem 73 (by decide +kernel) (by decide +kernel)
theorem tw_77 : Cond.fieldLink RX7 211 RX2 "ticks" "I" ∈ TB := TB_mem 77 (by decide +kernel) (by decide +kernel)
theorem tw_99 : Cond.fieldLink RX7 207 RX0 "plan" "LSlabTurn$Plan;" ∈ TB := TB_mem 99 (by decide +kernel) (by decide +kernel)
theorem tw_101 : Cond.fieldLink RX7 210 RX0 "there" "Z" ∈ TB := TB_mem 101 (by decide +kernel) (by decide +kernel)
theorem tw_103 : Cond.fieldLink RX7 220 RX0 "thick" "I" ∈ TB := TB_mem 103 (by decide +kernel) (by decide +kernel)
theorem tw_108 : Cond.fieldLink RX7 214 RX0 "tick" "I" ∈ TB := TB_mem 108 (by decide +kernel) (by decide +kernel)
theorem tw_157 : Cond.fieldLink RX7 159 RX3 "fault" "I" ∈ TB := TB_mem 157 (by decide +kernel) (by decide +kernel)
theorem tw_169 : Cond.fieldLink RX7 184 RX5 "there" "Z" ∈ TB := TB_mem 169 (by decide +kernel) (by decide +kernel)
theorem tw_173 : Cond.fieldLink RX7 198 RX5 "thick" "I" ∈ TB := TB_mem 173 (by decide +kernel) (by decide +kernel)
theorem tw_180 : Cond.fieldLink RX7 201 RX5 "salt" "I" ∈ TB := TB_mem 180 (by decide +kernel) (by decide +kernel)
theorem tw_205 : Cond.fieldLink RX7 337 RX1 "least" "I" ∈ TB := TB_mem 205 (by decide +kernel) (by decide +kernel)
theorem tw_220 : Cond.fieldLink RX7 121 RX4 "size" "I" ∈ TB := TB_mem 220 (by decide +kernel) (by decide +kernel)
theorem tw_240 : Cond.fieldLink RX7 9 RX7 "rows" "[LSlabTurn$Row;" ∈ TB := TB_mem 240 (by decide +kernel) (by decide +kernel)
theorem tw_241 : Cond.fieldLink RX7 17 RX7 "texts" "[LSlabTurn$Text;" ∈ TB := TB_mem 241 (by decide +kernel) (by decide +kernel)
theorem tw_242 : Cond.fieldLink RX7 23 RX7 "slabs" "[LSlabTurn$Slab;" ∈ TB := TB_mem 242 (by decide +kernel) (by decide +kernel)
theorem tw_243 : Cond.fieldLink RX7 29 RX7 "plans" "[LSlabTurn$Plan;" ∈ TB := TB_mem 243 (by decide +kernel) (by decide +kernel)
theorem tw_244 : Cond.fieldLink RX7 36 RX7 "dish" "LSlabTurn$Dish;" ∈ TB := TB_mem 244 (by decide +kernel) (by decide +kernel)
theorem tw_245 : Cond.fieldLink RX7 40 RX7 "kept" "[LSlabTurn$Dish;" ∈ TB := TB_mem 245 (by decide +kernel) (by decide +kernel)
theorem tw_246 : Cond.fieldLink RX7 44 RX7 "trial" "LSlabTurn$Dish;" ∈ TB := TB_mem 246 (by decide +kernel) (by decide +kernel)
theorem tw_247 : Cond.fieldLink RX7 47 RX7 "second" "LSlabTurn$Dish;" ∈ TB := TB_mem 247 (by decide +kernel) (by decide +kernel)
theorem tw_248 : Cond.fieldLink RX7 53 RX7 "reader" "LSlabTurn$Reader;" ∈ TB := TB_mem 248 (by decide +kernel) (by decide +kernel)
theorem tw_249 : Cond.fieldLink RX7 58 RX7 "readSlab" "LSlabTurn$Slab;" ∈ TB := TB_mem 249 (by decide +kernel) (by decide +kernel)
theorem tw_250 : Cond.fieldLink RX7 63 RX7 "readPlan" "LSlabTurn$Plan;" ∈ TB := TB_mem 250 (by decide +kernel) (by decide +kernel)
theorem tw_251 : Cond.fieldLink RX7 70 RX7 "fire" "LSlabTurn$Fire;" ∈ TB := TB_mem 251 (by decide +kernel) (by decide +kernel)
theorem tw_252 : Cond.fieldLink RX7 74 RX7 "unlike" "[I" ∈ TB := TB_mem 252 (by decide +kernel) (by decide +kernel)
theorem tw_253 : Cond.fieldLink RX7 78 RX7 "ticksByThick" "[I" ∈ TB := TB_mem 253 (by decide +kernel) (by decide +kernel)
theorem tw_254 : Cond.fieldLink RX7 81 RX7 "findings" "[I" ∈ TB := TB_mem 254 (by decide +kernel) (by decide +kernel)
theorem tw_255 : Cond.fieldLink RX7 377 RX7 "finding" "I" ∈ TB := TB_mem 255 (by decide +kernel) (by decide +kernel)
theorem tw_256 : Cond.fieldLink RX7 353 RX7 "asked" "I" ∈ TB := TB_mem 256 (by decide +kernel) (by decide +kernel)
theorem tw_257 : Cond.fieldLink RX7 356 RX7 "upper" "J" ∈ TB := TB_mem 257 (by decide +kernel) (by decide +kernel)
theorem tw_258 : Cond.fieldLink RX7 84 RX7 "lower" "J" ∈ TB := TB_mem 258 (by decide +kernel) (by decide +kernel)
theorem tw_299 : Cond.instanceMethod yX7_plan ∈ TB := TB_mem 299 (by decide +kernel) (by decide +kernel)
theorem tw_300 : Cond.selects RX7 yX7_plan yX7_plan ∈ TB := TB_mem 300 (by decide +kernel) (by decide +kernel)
theorem tw_301 : Cond.code yX7_plan cX7_plan 5 (some .int) ∈ TB := TB_mem 301 (by decide +kernel) (by decide +kernel)
theorem tw_302 : Cond.methodLink RX7 170 yX7_planAt ∈ TB := TB_mem 302 (by decide +kernel) (by decide +kernel)
theorem tw_304 : Cond.instanceMethod yX7_planAt ∈ TB := TB_mem 304 (by decide +kernel) (by decide +kernel)
theorem tw_305 : Cond.code yX7_planAt cX7_planAt 2 (some (.object "SlabTurn$Plan")) ∈ TB := TB_mem 305 (by decide +kernel) (by decide +kernel)
theorem tw_306 : Cond.methodLink RX7 142 yX7_textAt ∈ TB := TB_mem 306 (by decide +kernel) (by decide +kernel)
theorem tw_308 : Cond.instanceMethod yX7_textAt ∈ TB := TB_mem 308 (by decide +kernel) (by decide +kernel)
theorem tw_309 : Cond.code yX7_textAt cX7_textAt 2 (some (.object "SlabTurn$Text")) ∈ TB := TB_mem 309 (by decide +kernel) (by decide +kernel)
theorem tw_310 : Cond.methodLink RX7 147 yX6_there ∈ TB := TB_mem 310 (by decide +kernel) (by decide +kernel)
theorem tw_314 : Cond.methodLink RX7 94 yX7_found ∈ TB := TB_mem 314 (by decide +kernel) (by decide +kernel)
theorem tw_316 : Cond.instanceMethod yX7_found ∈ TB := TB_mem 316 (by decide +kernel) (by decide +kernel)
theorem tw_317 : Cond.code yX7_found cX7_found 2 (some .int) ∈ TB := TB_mem 317 (by decide +kernel) (by decide +kernel)
theorem tw_318 : Cond.methodLink RX7 153 yX3_readPlan ∈ TB := TB_mem 318 (by decide +kernel) (by decide +kernel)
theorem tw_356 : Cond.methodLink RX7 174 yX2_become ∈ TB := TB_mem 356 (by decide +kernel) (by decide +kernel)
theorem tw_379 : Cond.instanceMethod yX7_dish ∈ TB := TB_mem 379 (by decide +kernel) (by decide +kernel)
theorem tw_380 : Cond.selects RX7 yX7_dish yX7_dish ∈ TB := TB_mem 380 (by decide +kernel) (by decide +kernel)
theorem tw_381 : Cond.code yX7_dish cX7_dish 5 (some .int) ∈ TB := TB_mem 381 (by decide +kernel) (by decide +kernel)
theorem tw_382 : Cond.methodLink RX7 162 yX7_slabAt ∈ TB := TB_mem 382 (by decide +kernel) (by decide +kernel)
theorem tw_384 : Cond.instanceMethod yX7_slabAt ∈ TB := TB_mem 384 (by decide +kernel) (by decide +kernel)
theorem tw_385 : Cond.code yX7_slabAt cX7_slabAt 2 (some (.object "SlabTurn$Slab")) ∈ TB := TB_mem 385 (by decide +kernel) (by decide +kernel)
theorem tw_386 : Cond.methodLink RX7 204 yX0_begin ∈ TB := TB_mem 386 (by decide +kernel) (by decide +kernel)
theorem tw_398 : Cond.instanceMethod yX7_go ∈ TB := TB_mem 398 (by decide +kernel) (by decide +kernel)
theorem tw_399 : Cond.selects RX7 yX7_go yX7_go ∈ TB := TB_mem 399 (by decide +kernel) (by decide +kernel)
theorem tw_400 : Cond.code yX7_go cX7_go 2 (some .int) ∈ TB := TB_mem 400 (by decide +kernel) (by decide +kernel)
theorem tw_401 : Cond.methodLink RX7 180 yX7_within ∈ TB := TB_mem 401 (by decide +kernel) (by decide +kernel)
theorem tw_402 : Cond.methodLink RX7 217 yX0_goOn ∈ TB := TB_mem 402 (by decide +kernel) (by decide +kernel)
theorem tw_434 : Cond.instanceMethod yX7_depth ∈ TB := TB_mem 434 (by decide +kernel) (by decide +kernel)
theorem tw_435 : Cond.selects RX7 yX7_depth yX7_depth ∈ TB := TB_mem 435 (by decide +kernel) (by decide +kernel)
theorem tw_436 : Cond.code yX7_depth cX7_depth 3 (some .int) ∈ TB := TB_mem 436 (by decide +kernel) (by decide +kernel)
theorem tw_437 : Cond.methodLink RX7 221 yX0_depthTells ∈ TB := TB_mem 437 (by decide +kernel) (by decide +kernel)
theorem tw_457 : Cond.methodLink RX7 117 yX7_told ∈ TB := TB_mem 457 (by decide +kernel) (by decide +kernel)
theorem tw_459 : Cond.instanceMethod yX7_told ∈ TB := TB_mem 459 (by decide +kernel) (by decide +kernel)
theorem tw_460 : Cond.code yX7_told cX7_told 3 (some .int) ∈ TB := TB_mem 460 (by decide +kernel) (by decide +kernel)
theorem tw_462 : Cond.instanceMethod yX7_skin ∈ TB := TB_mem 462 (by decide +kernel) (by decide +kernel)
theorem tw_463 : Cond.selects RX7 yX7_skin yX7_skin ∈ TB := TB_mem 463 (by decide +kernel) (by decide +kernel)
theorem tw_464 : Cond.code yX7_skin cX7_skin 3 (some .int) ∈ TB := TB_mem 464 (by decide +kernel) (by decide +kernel)
theorem tw_465 : Cond.methodLink RX7 224 yX0_skinTells ∈ TB := TB_mem 465 (by decide +kernel) (by decide +kernel)
theorem tw_482 : Cond.instanceMethod yX7_just ∈ TB := TB_mem 482 (by decide +kernel) (by decide +kernel)
theorem tw_483 : Cond.selects RX7 yX7_just yX7_just ∈ TB := TB_mem 483 (by decide +kernel) (by decide +kernel)
theorem tw_484 : Cond.code yX7_just cX7_just 3 (some .int) ∈ TB := TB_mem 484 (by decide +kernel) (by decide +kernel)
theorem tw_485 : Cond.methodLink RX7 243 yX7_isSpan ∈ TB := TB_mem 485 (by decide +kernel) (by decide +kernel)
theorem tw_486 : Cond.static yX7_isSpan ∈ TB := TB_mem 486 (by decide +kernel) (by decide +kernel)
theorem tw_487 : Cond.code yX7_isSpan cX7_isSpan 2 (some .boolean) ∈ TB := TB_mem 487 (by decide +kernel) (by decide +kernel)
theorem tw_488 : Cond.methodLink RX7 246 yX0_justSo ∈ TB := TB_mem 488 (by decide +kernel) (by decide +kernel)
theorem tw_493 : Cond.methodLink RX7 249 yX0_allJuice ∈ TB := TB_mem 493 (by decide +kernel) (by decide +kernel)
theorem tw_498 : Cond.instanceMethod yX7_slice ∈ TB := TB_mem 498 (by decide +kernel) (by decide +kernel)
theorem tw_499 : Cond.selects RX7 yX7_slice yX7_slice ∈ TB := TB_mem 499 (by decide +kernel) (by decide +kernel)
theorem tw_500 : Cond.code yX7_slice cX7_slice 4 (some .int) ∈ TB := TB_mem 500 (by decide +kernel) (by decide +kernel)
theorem tw_501 : Cond.methodLink RX7 90 yX7_rowAt ∈ TB := TB_mem 501 (by decide +kernel) (by decide +kernel)
theorem tw_503 : Cond.instanceMethod yX7_rowAt ∈ TB := TB_mem 503 (by decide +kernel) (by decide +kernel)
theorem tw_504 : Cond.code yX7_rowAt cX7_rowAt 2 (some (.object "SlabTurn$Row")) ∈ TB := TB_mem 504 (by decide +kernel) (by decide +kernel)
theorem tw_505 : Cond.methodLink RX7 98 yX4_begin ∈ TB := TB_mem 505 (by decide +kernel) (by decide +kernel)
theorem tw_511 : Cond.methodLink RX7 252 yX0_colour ∈ TB := TB_mem 511 (by decide +kernel) (by decide +kernel)
theorem tw_515 : Cond.methodLink RX7 113 yX4_set ∈ TB := TB_mem 515 (by decide +kernel) (by decide +kernel)
theorem tw_523 : Cond.methodLink RX7 255 yX0_pink ∈ TB := TB_mem 523 (by decide +kernel) (by decide +kernel)
theorem tw_529 : Cond.instanceMethod yX7_cut ∈ TB := TB_mem 529 (by decide +kernel) (by decide +kernel)
theorem tw_530 : Cond.selects RX7 yX7_cut yX7_cut ∈ TB := TB_mem 530 (by decide +kernel) (by decide +kernel)
theorem tw_531 : Cond.code yX7_cut cX7_cut 2 (some .int) ∈ TB := TB_mem 531 (by decide +kernel) (by decide +kernel)
theorem tw_532 : Cond.methodLink RX7 240 yX0_become ∈ TB := TB_mem 532 (by decide +kernel) (by decide +kernel)
theorem tw_537 : Cond.methodLink RX7 258 yX0_restFor ∈ TB := TB_mem 537 (by decide +kernel) (by decide +kernel)
theorem tw_541 : Cond.methodLink RX7 261 yX0_lossNow ∈ TB := TB_mem 541 (by decide +kernel) (by decide +kernel)
theorem tw_546 : Cond.instanceMethod yX7_rise ∈ TB := TB_mem 546 (by decide +kernel) (by decide +kernel)
theorem tw_547 : Cond.selects RX7 yX7_rise yX7_rise ∈ TB := TB_mem 547 (by decide +kernel) (by decide +kernel)
theorem tw_548 : Cond.code yX7_rise cX7_rise 5 (some .int) ∈ TB := TB_mem 548 (by decide +kernel) (by decide +kernel)
theorem tw_549 : Cond.methodLink RX7 264 yX0_middleWarmth ∈ TB := TB_mem 549 (by decide +kernel) (by decide +kernel)
theorem tw_557 : Cond.methodLink RX7 267 yX0_heat ∈ TB := TB_mem 557 (by decide +kernel) (by decide +kernel)
theorem tw_559 : Cond.instanceMethod yX7_rest ∈ TB := TB_mem 559 (by decide +kernel) (by decide +kernel)
theorem tw_560 : Cond.selects RX7 yX7_rest yX7_rest ∈ TB := TB_mem 560 (by decide +kernel) (by decide +kernel)
theorem tw_561 : Cond.code yX7_rest cX7_rest 8 (some .int) ∈ TB := TB_mem 561 (by decide +kernel) (by decide +kernel)
theorem tw_562 : Cond.methodLink RX7 309 yX0_makeByPlan ∈ TB := TB_mem 562 (by decide +kernel) (by decide +kernel)
theorem tw_569 : Cond.instanceMethod yX7_which ∈ TB := TB_mem 569 (by decide +kernel) (by decide +kernel)
theorem tw_570 : Cond.selects RX7 yX7_which yX7_which ∈ TB := TB_mem 570 (by decide +kernel) (by decide +kernel)
theorem tw_571 : Cond.code yX7_which cX7_which 6 (some .int) ∈ TB := TB_mem 571 (by decide +kernel) (by decide +kernel)
theorem tw_572 : Cond.methodLink RX7 343 yX7_wrongSlice ∈ TB := TB_mem 572 (by decide +kernel) (by decide +kernel)
theorem tw_573 : Cond.static yX7_wrongSlice ∈ TB := TB_mem 573 (by decide +kernel) (by decide +kernel)
theorem tw_574 : Cond.code yX7_wrongSlice cX7_wrongSlice 2 (some .int) ∈ TB := TB_mem 574 (by decide +kernel) (by decide +kernel)
theorem tw_575 : Cond.methodLink RX7 102 yX4_there ∈ TB := TB_mem 575 (by decide +kernel) (by decide +kernel)
theorem tw_579 : Cond.methodLink RX7 110 yX4_value ∈ TB := TB_mem 579 (by decide +kernel) (by decide +kernel)
theorem tw_583 : Cond.methodLink RX7 347 yX7_leastUnlike ∈ TB := TB_mem 583 (by decide +kernel) (by decide +kernel)
theorem tw_585 : Cond.instanceMethod yX7_leastUnlike ∈ TB := TB_mem 585 (by decide +kernel) (by decide +kernel)
theorem tw_586 : Cond.code yX7_leastUnlike cX7_leastUnlike 6 (some .int) ∈ TB := TB_mem 586 (by decide +kernel) (by decide +kernel)
theorem tw_587 : Cond.methodLink RX7 404 yX0_unlikeRow ∈ TB := TB_mem 587 (by decide +kernel) (by decide +kernel)
theorem tw_593 : Cond.methodLink RX7 281 Lib.Math.min.name ∈ TB := TB_mem 593 (by decide +kernel) (by decide +kernel)
theorem tw_595 : Cond.instanceMethod yX7_odds ∈ TB := TB_mem 595 (by decide +kernel) (by decide +kernel)
theorem tw_596 : Cond.selects RX7 yX7_odds yX7_odds ∈ TB := TB_mem 596 (by decide +kernel) (by decide +kernel)
theorem tw_597 : Cond.code yX7_odds cX7_odds 9 (some .int) ∈ TB := TB_mem 597 (by decide +kernel) (by decide +kernel)
theorem tw_598 : Cond.methodLink RX7 350 yX7_tellFraction ∈ TB := TB_mem 598 (by decide +kernel) (by decide +kernel)
theorem tw_600 : Cond.instanceMethod yX7_tellFraction ∈ TB := TB_mem 600 (by decide +kernel) (by decide +kernel)
theorem tw_601 : Cond.code yX7_tellFraction cX7_tellFraction 7 none ∈ TB := TB_mem 601 (by decide +kernel) (by decide +kernel)
theorem tw_603 : Cond.instanceMethod yX7_asked ∈ TB := TB_mem 603 (by decide +kernel) (by decide +kernel)
theorem tw_604 : Cond.selects RX7 yX7_asked yX7_asked ∈ TB := TB_mem 604 (by decide +kernel) (by decide +kernel)
theorem tw_605 : Cond.code yX7_asked cX7_asked 1 (some .int) ∈ TB := TB_mem 605 (by decide +kernel) (by decide +kernel)
theorem tw_607 : Cond.instanceMethod yX7_upper ∈ TB := TB_mem 607 (by decide +kernel) (by decide +kernel)
theorem tw_608 : Cond.selects RX7 yX7_upper yX7_upper ∈ TB := TB_mem 608 (by decide +kernel) (by decide +kernel)
theorem tw_609 : Cond.code yX7_upper cX7_upper 1 (some .long) ∈ TB := TB_mem 609 (by decide +kernel) (by decide +kernel)
theorem tw_611 : Cond.instanceMethod yX7_digest ∈ TB := TB_mem 611 (by decide +kernel) (by decide +kernel)
theorem tw_612 : Cond.selects RX7 yX7_digest yX7_digest ∈ TB := TB_mem 612 (by decide +kernel) (by decide +kernel)
theorem tw_613 : Cond.code yX7_digest cX7_digest 7 (some .long) ∈ TB := TB_mem 613 (by decide +kernel) (by decide +kernel)
theorem tw_614 : Cond.constantLong RX7 380 17 ∈ TB := TB_mem 614 (by decide +kernel) (by decide +kernel)
theorem tw_615 : Cond.constantLong RX7 382 31 ∈ TB := TB_mem 615 (by decide +kernel) (by decide +kernel)
theorem tw_616 : Cond.methodLink RX7 384 yX7_count ∈ TB := TB_mem 616 (by decide +kernel) (by decide +kernel)
theorem tw_617 : Cond.instanceMethod yX7_count ∈ TB := TB_mem 617 (by decide +kernel) (by decide +kernel)
theorem tw_618 : Cond.selects RX7 yX7_count yX7_count ∈ TB := TB_mem 618 (by decide +kernel) (by decide +kernel)
theorem tw_619 : Cond.code yX7_count cX7_count 2 (some .int) ∈ TB := TB_mem 619 (by decide +kernel) (by decide +kernel)
theorem tw_620 : Cond.methodLink RX7 359 yX7_slabsThere ∈ TB := TB_mem 620 (by decide +kernel) (by decide +kernel)
theorem tw_622 : Cond.instanceMethod yX7_slabsThere ∈ TB := TB_mem 622 (by decide +kernel) (by decide +kernel)
theorem tw_623 : Cond.code yX7_slabsThere cX7_slabsThere 6 (some .int) ∈ TB := TB_mem 623 (by decide +kernel) (by decide +kernel)
theorem tw_624 : Cond.methodLink RX7 362 yX7_plansThere ∈ TB := TB_mem 624 (by decide +kernel) (by decide +kernel)
theorem tw_626 : Cond.instanceMethod yX7_plansThere ∈ TB := TB_mem 626 (by decide +kernel) (by decide +kernel)
theorem tw_627 : Cond.code yX7_plansThere cX7_plansThere 6 (some .int) ∈ TB := TB_mem 627 (by decide +kernel) (by decide +kernel)
theorem tw_628 : Cond.methodLink RX7 365 yX7_skinsOf ∈ TB := TB_mem 628 (by decide +kernel) (by decide +kernel)
theorem tw_630 : Cond.instanceMethod yX7_skinsOf ∈ TB := TB_mem 630 (by decide +kernel) (by decide +kernel)
theorem tw_631 : Cond.code yX7_skinsOf cX7_skinsOf 4 (some .int) ∈ TB := TB_mem 631 (by decide +kernel) (by decide +kernel)
theorem tw_632 : Cond.methodLink RX7 227 yX0_kindOf ∈ TB := TB_mem 632 (by decide +kernel) (by decide +kernel)
theorem tw_633 : Cond.methodLink RX7 230 yX7_isOf ∈ TB := TB_mem 633 (by decide +kernel) (by decide +kernel)
theorem tw_634 : Cond.static yX7_isOf ∈ TB := TB_mem 634 (by decide +kernel) (by decide +kernel)
theorem tw_635 : Cond.code yX7_isOf cX7_isOf 4 (some .boolean) ∈ TB := TB_mem 635 (by decide +kernel) (by decide +kernel)
theorem tw_636 : Cond.fieldLink RX7 394 "SlabTurn" "PARENT" "[I" ∈ TB := TB_mem 636 (by decide +kernel) (by decide +kernel)
theorem tw_638 : Cond.methodLink RX7 368 yX7_dishesKept ∈ TB := TB_mem 638 (by decide +kernel) (by decide +kernel)
theorem tw_640 : Cond.instanceMethod yX7_dishesKept ∈ TB := TB_mem 640 (by decide +kernel) (by decide +kernel)
theorem tw_641 : Cond.code yX7_dishesKept cX7_dishesKept 6 (some .int) ∈ TB := TB_mem 641 (by decide +kernel) (by decide +kernel)
theorem tw_642 : Cond.methodLink RX7 371 yX7_rowsThere ∈ TB := TB_mem 642 (by decide +kernel) (by decide +kernel)
theorem tw_644 : Cond.instanceMethod yX7_rowsThere ∈ TB := TB_mem 644 (by decide +kernel) (by decide +kernel)
theorem tw_645 : Cond.code yX7_rowsThere cX7_rowsThere 6 (some .int) ∈ TB := TB_mem 645 (by decide +kernel) (by decide +kernel)
theorem tw_646 : Cond.methodLink RX7 374 yX7_textsThere ∈ TB := TB_mem 646 (by decide +kernel) (by decide +kernel)
theorem tw_648 : Cond.instanceMethod yX7_textsThere ∈ TB := TB_mem 648 (by decide +kernel) (by decide +kernel)
theorem tw_649 : Cond.code yX7_textsThere cX7_textsThere 6 (some .int) ∈ TB := TB_mem 649 (by decide +kernel) (by decide +kernel)
theorem tw_650 : Cond.methodLink RX7 386 yX5_digestOn ∈ TB := TB_mem 650 (by decide +kernel) (by decide +kernel)
theorem tw_659 : Cond.methodLink RX7 390 yX2_digestOn ∈ TB := TB_mem 659 (by decide +kernel) (by decide +kernel)
theorem tw_668 : Cond.methodLink RX7 391 yX0_digestOn ∈ TB := TB_mem 668 (by decide +kernel) (by decide +kernel)
theorem tw_675 : Cond.methodLink RX7 392 yX4_digestOn ∈ TB := TB_mem 675 (by decide +kernel) (by decide +kernel)
theorem tw_681 : Cond.methodLink RX7 393 yX6_digestOn ∈ TB := TB_mem 681 (by decide +kernel) (by decide +kernel)
theorem tw_698 : Cond.instanceMethod yX7_text ∈ TB := TB_mem 698 (by decide +kernel) (by decide +kernel)
theorem tw_699 : Cond.selects RX7 yX7_text yX7_text ∈ TB := TB_mem 699 (by decide +kernel) (by decide +kernel)
theorem tw_700 : Cond.code yX7_text cX7_text 4 (some .int) ∈ TB := TB_mem 700 (by decide +kernel) (by decide +kernel)
theorem tw_701 : Cond.methodLink RX7 146 yX6_begin ∈ TB := TB_mem 701 (by decide +kernel) (by decide +kernel)
theorem tw_711 : Cond.instanceMethod yX7_put ∈ TB := TB_mem 711 (by decide +kernel) (by decide +kernel)
theorem tw_712 : Cond.selects RX7 yX7_put yX7_put ∈ TB := TB_mem 712 (by decide +kernel) (by decide +kernel)
theorem tw_713 : Cond.code yX7_put cX7_put 6 (some .int) ∈ TB := TB_mem 713 (by decide +kernel) (by decide +kernel)
theorem tw_714 : Cond.methodLink RX7 148 yX6_has ∈ TB := TB_mem 714 (by decide +kernel) (by decide +kernel)
theorem tw_715 : Cond.methodLink RX7 149 yX6_value ∈ TB := TB_mem 715 (by decide +kernel) (by decide +kernel)
theorem tw_716 : Cond.methodLink RX7 150 yX6_set ∈ TB := TB_mem 716 (by decide +kernel) (by decide +kernel)
theorem tw_724 : Cond.instanceMethod yX7_fault ∈ TB := TB_mem 724 (by decide +kernel) (by decide +kernel)
theorem tw_725 : Cond.selects RX7 yX7_fault yX7_fault ∈ TB := TB_mem 725 (by decide +kernel) (by decide +kernel)
theorem tw_726 : Cond.code yX7_fault cX7_fault 4 (some .int) ∈ TB := TB_mem 726 (by decide +kernel) (by decide +kernel)
theorem tw_727 : Cond.methodLink RX7 156 yX3_readSlab ∈ TB := TB_mem 727 (by decide +kernel) (by decide +kernel)
theorem tw_740 : Cond.instanceMethod yX7_slab ∈ TB := TB_mem 740 (by decide +kernel) (by decide +kernel)
theorem tw_741 : Cond.selects RX7 yX7_slab yX7_slab ∈ TB := TB_mem 741 (by decide +kernel) (by decide +kernel)
theorem tw_742 : Cond.code yX7_slab cX7_slab 6 (some .int) ∈ TB := TB_mem 742 (by decide +kernel) (by decide +kernel)
theorem tw_743 : Cond.methodLink RX7 166 yX5_become ∈ TB := TB_mem 743 (by decide +kernel) (by decide +kernel)
theorem tw_763 : Cond.instanceMethod yX7_turns ∈ TB := TB_mem 763 (by decide +kernel) (by decide +kernel)
theorem tw_764 : Cond.selects RX7 yX7_turns yX7_turns ∈ TB := TB_mem 764 (by decide +kernel) (by decide +kernel)
theorem tw_765 : Cond.code yX7_turns cX7_turns 8 (some .int) ∈ TB := TB_mem 765 (by decide +kernel) (by decide +kernel)
theorem tw_766 : Cond.methodLink RX7 284 yX7_isWay ∈ TB := TB_mem 766 (by decide +kernel) (by decide +kernel)
theorem tw_767 : Cond.static yX7_isWay ∈ TB := TB_mem 767 (by decide +kernel) (by decide +kernel)
theorem tw_768 : Cond.code yX7_isWay cX7_isWay 2 (some .boolean) ∈ TB := TB_mem 768 (by decide +kernel) (by decide +kernel)
theorem tw_769 : Cond.methodLink RX7 287 yX0_makeByWay ∈ TB := TB_mem 769 (by decide +kernel) (by decide +kernel)
theorem tw_778 : Cond.instanceMethod yX7_way ∈ TB := TB_mem 778 (by decide +kernel) (by decide +kernel)
theorem tw_779 : Cond.selects RX7 yX7_way yX7_way ∈ TB := TB_mem 779 (by decide +kernel) (by decide +kernel)
theorem tw_780 : Cond.code yX7_way cX7_way 6 (some .int) ∈ TB := TB_mem 780 (by decide +kernel) (by decide +kernel)
theorem tw_781 : Cond.methodLink RX7 291 yX0_crust ∈ TB := TB_mem 781 (by decide +kernel) (by decide +kernel)
theorem tw_786 : Cond.instanceMethod yX7_often ∈ TB := TB_mem 786 (by decide +kernel) (by decide +kernel)
theorem tw_787 : Cond.selects RX7 yX7_often yX7_often ∈ TB := TB_mem 787 (by decide +kernel) (by decide +kernel)
theorem tw_788 : Cond.code yX7_often cX7_often 6 (some .int) ∈ TB := TB_mem 788 (by decide +kernel) (by decide +kernel)
theorem tw_789 : Cond.methodLink RX7 294 yX0_middleMost ∈ TB := TB_mem 789 (by decide +kernel) (by decide +kernel)
theorem tw_794 : Cond.instanceMethod yX7_most ∈ TB := TB_mem 794 (by decide +kernel) (by decide +kernel)
theorem tw_795 : Cond.selects RX7 yX7_most yX7_most ∈ TB := TB_mem 795 (by decide +kernel) (by decide +kernel)
theorem tw_796 : Cond.code yX7_most cX7_most 14 (some .int) ∈ TB := TB_mem 796 (by decide +kernel) (by decide +kernel)
theorem tw_797 : Cond.fieldLink RX7 297 "SlabTurn" "TURNS_TRIED" "[I" ∈ TB := TB_mem 797 (by decide +kernel) (by decide +kernel)
theorem tw_799 : Cond.methodLink RX7 300 yX0_goByWay ∈ TB := TB_mem 799 (by decide +kernel) (by decide +kernel)
theorem tw_801 : Cond.instanceMethod yX7_off ∈ TB := TB_mem 801 (by decide +kernel) (by decide +kernel)
theorem tw_802 : Cond.selects RX7 yX7_off yX7_off ∈ TB := TB_mem 802 (by decide +kernel) (by decide +kernel)
theorem tw_803 : Cond.code yX7_off cX7_off 10 (some .int) ∈ TB := TB_mem 803 (by decide +kernel) (by decide +kernel)
theorem tw_804 : Cond.methodLink RX7 303 yX0_greatestAtRest ∈ TB := TB_mem 804 (by decide +kernel) (by decide +kernel)
theorem tw_809 : Cond.methodLink RX7 306 Lib.Math.abs.name ∈ TB := TB_mem 809 (by decide +kernel) (by decide +kernel)
theorem tw_810 : Cond.static Lib.Math.abs.name ∈ TB := TB_mem 810 (by decide +kernel) (by decide +kernel)
theorem tw_811 : Cond.code Lib.Math.abs.name Lib.Math.abs.code 1 (some .int) ∈ TB := TB_mem 811 (by decide +kernel) (by decide +kernel)
theorem tw_813 : Cond.instanceMethod yX7_safe ∈ TB := TB_mem 813 (by decide +kernel) (by decide +kernel)
theorem tw_814 : Cond.selects RX7 yX7_safe yX7_safe ∈ TB := TB_mem 814 (by decide +kernel) (by decide +kernel)
theorem tw_815 : Cond.code yX7_safe cX7_safe 6 (some .int) ∈ TB := TB_mem 815 (by decide +kernel) (by decide +kernel)
theorem tw_816 : Cond.methodLink RX7 340 yX7_isHeat ∈ TB := TB_mem 816 (by decide +kernel) (by decide +kernel)
theorem tw_817 : Cond.static yX7_isHeat ∈ TB := TB_mem 817 (by decide +kernel) (by decide +kernel)
theorem tw_818 : Cond.code yX7_isHeat cX7_isHeat 1 (some .boolean) ∈ TB := TB_mem 818 (by decide +kernel) (by decide +kernel)
theorem tw_819 : Cond.methodLink RX7 273 Lib.Math.max.name ∈ TB := TB_mem 819 (by decide +kernel) (by decide +kernel)
theorem tw_821 : Cond.instanceMethod yX7_same ∈ TB := TB_mem 821 (by decide +kernel) (by decide +kernel)
theorem tw_822 : Cond.selects RX7 yX7_same yX7_same ∈ TB := TB_mem 822 (by decide +kernel) (by decide +kernel)
theorem tw_823 : Cond.code yX7_same cX7_same 11 (some .int) ∈ TB := TB_mem 823 (by decide +kernel) (by decide +kernel)
theorem tw_824 : Cond.methodLink RX7 313 yX0_ticksTill ∈ TB := TB_mem 824 (by decide +kernel) (by decide +kernel)
theorem tw_830 : Cond.instanceMethod yX7_rule ∈ TB := TB_mem 830 (by decide +kernel) (by decide +kernel)
theorem tw_831 : Cond.selects RX7 yX7_rule yX7_rule ∈ TB := TB_mem 831 (by decide +kernel) (by decide +kernel)
theorem tw_832 : Cond.code yX7_rule cX7_rule 11 (some .int) ∈ TB := TB_mem 832 (by decide +kernel) (by decide +kernel)
theorem tw_837 : Cond.instanceMethod yX7_salt ∈ TB := TB_mem 837 (by decide +kernel) (by decide +kernel)
theorem tw_838 : Cond.selects RX7 yX7_salt yX7_salt ∈ TB := TB_mem 838 (by decide +kernel) (by decide +kernel)
theorem tw_839 : Cond.code yX7_salt cX7_salt 8 (some .int) ∈ TB := TB_mem 839 (by decide +kernel) (by decide +kernel)
theorem tw_844 : Cond.instanceMethod yX7_thick ∈ TB := TB_mem 844 (by decide +kernel) (by decide +kernel)
theorem tw_845 : Cond.selects RX7 yX7_thick yX7_thick ∈ TB := TB_mem 845 (by decide +kernel) (by decide +kernel)
theorem tw_846 : Cond.code yX7_thick cX7_thick 10 (some .int) ∈ TB := TB_mem 846 (by decide +kernel) (by decide +kernel)
theorem tw_848 : Cond.instanceMethod yX7_order ∈ TB := TB_mem 848 (by decide +kernel) (by decide +kernel)
theorem tw_849 : Cond.selects RX7 yX7_order yX7_order ∈ TB := TB_mem 849 (by decide +kernel) (by decide +kernel)
theorem tw_850 : Cond.code yX7_order cX7_order 5 (some .int) ∈ TB := TB_mem 850 (by decide +kernel) (by decide +kernel)
theorem tw_851 : Cond.methodLink RX7 317 yX7_isIn ∈ TB := TB_mem 851 (by decide +kernel) (by decide +kernel)
theorem tw_854 : Cond.methodLink RX7 320 yX7_hasBoth ∈ TB := TB_mem 854 (by decide +kernel) (by decide +kernel)
theorem tw_856 : Cond.instanceMethod yX7_hasBoth ∈ TB := TB_mem 856 (by decide +kernel) (by decide +kernel)
theorem tw_857 : Cond.code yX7_hasBoth cX7_hasBoth 4 (some .boolean) ∈ TB := TB_mem 857 (by decide +kernel) (by decide +kernel)
theorem tw_858 : Cond.methodLink RX7 323 yX7_tellLosses ∈ TB := TB_mem 858 (by decide +kernel) (by decide +kernel)
theorem tw_860 : Cond.instanceMethod yX7_tellLosses ∈ TB := TB_mem 860 (by decide +kernel) (by decide +kernel)
theorem tw_861 : Cond.code yX7_tellLosses cX7_tellLosses 10 none ∈ TB := TB_mem 861 (by decide +kernel) (by decide +kernel)
theorem tw_862 : Cond.methodLink RX7 397 yX7_ticksOf ∈ TB := TB_mem 862 (by decide +kernel) (by decide +kernel)
theorem tw_864 : Cond.instanceMethod yX7_ticksOf ∈ TB := TB_mem 864 (by decide +kernel) (by decide +kernel)
theorem tw_865 : Cond.code yX7_ticksOf cX7_ticksOf 5 (some .int) ∈ TB := TB_mem 865 (by decide +kernel) (by decide +kernel)
theorem tw_866 : Cond.methodLink RX7 400 yX1_setLoss ∈ TB := TB_mem 866 (by decide +kernel) (by decide +kernel)
theorem tw_871 : Cond.methodLink RX7 326 yX1_findBest ∈ TB := TB_mem 871 (by decide +kernel) (by decide +kernel)
theorem tw_893 : Cond.methodLink RX7 329 yJ6_bitCount_0f7a4 ∈ TB := TB_mem 893 (by decide +kernel) (by decide +kernel)
theorem tw_894 : Cond.methodLink RX7 334 yX1_bestAt ∈ TB := TB_mem 894 (by decide +kernel) (by decide +kernel)
theorem tw_899 : Cond.instanceMethod yX7_at ∈ TB := TB_mem 899 (by decide +kernel) (by decide +kernel)
theorem tw_900 : Cond.selects RX7 yX7_at yX7_at ∈ TB := TB_mem 900 (by decide +kernel) (by decide +kernel)
theorem tw_901 : Cond.code yX7_at cX7_at 4 (some .int) ∈ TB := TB_mem 901 (by decide +kernel) (by decide +kernel)
theorem tw_902 : Cond.methodLink RX7 106 yX4_has ∈ TB := TB_mem 902 (by decide +kernel) (by decide +kernel)
theorem tw_904 : Cond.instanceMethod yX7_tear ∈ TB := TB_mem 904 (by decide +kernel) (by decide +kernel)
theorem tw_905 : Cond.selects RX7 yX7_tear yX7_tear ∈ TB := TB_mem 905 (by decide +kernel) (by decide +kernel)
theorem tw_906 : Cond.code yX7_tear cX7_tear 3 (some .int) ∈ TB := TB_mem 906 (by decide +kernel) (by decide +kernel)
theorem mw_X7_asked : MWV yX7_asked cX7_asked 1 (some .int) 0 := ⟨⟨by decide, by decide, by decide +kernel⟩, tw_605, tw_28, tw_603, tw_604⟩
theorem mw_X7_upper : MWV yX7_upper cX7_upper 1 (some .long) 0 := ⟨⟨by decide, by decide, by decide +kernel⟩, tw_609, tw_28, tw_607, tw_608⟩
theorem mw_X7_found : MWV yX7_found cX7_found 2 (some .int) 1 := ⟨⟨by decide, by decide, by decide +kernel⟩, tw_317, tw_28, tw_316, tw_2⟩
theorem mw_X7_told : MWV yX7_told cX7_told 3 (some .int) 2 := ⟨⟨by decide, by decide, by decide +kernel⟩, tw_460, tw_28, tw_459, tw_11⟩
theorem mw_X7_tellFraction : MWV yX7_tellFraction cX7_tellFraction 7 none 2 := ⟨⟨by decide, by decide, by decide +kernel⟩, tw_601, tw_28, tw_600, tw_14⟩
theorem mw_X7_rowAt : MWV yX7_rowAt cX7_rowAt 2 (some (.object "SlabTurn$Row")) 1 := ⟨⟨by decide, by decide, by decide +kernel⟩, tw_504, tw_28, tw_503, tw_12⟩
theorem mw_X7_textAt : MWV yX7_textAt cX7_textAt 2 (some (.object "SlabTurn$Text")) 1 := ⟨⟨by decide, by decide, by decide +kernel⟩, tw_309, tw_28, tw_308, tw_1⟩
theorem mw_X7_slabAt : MWV yX7_slabAt cX7_slabAt 2 (some (.object "SlabTurn$Slab")) 1 := ⟨⟨by decide, by decide, by decide +kernel⟩, tw_385, tw_28, tw_384, tw_6⟩
theorem mw_X7_planAt : MWV yX7_planAt cX7_planAt 2 (some (.object "SlabTurn$Plan")) 1 := ⟨⟨by decide, by decide, by decide +kernel⟩, tw_305, tw_28, tw_304, tw_0⟩
theorem mw_X7_slabsThere : MWV yX7_slabsThere cX7_slabsThere 6 (some .int) 0 := ⟨⟨by decide, by decide, by decide +kernel⟩, tw_623, tw_28, tw_622, tw_15⟩
theorem mw_X7_plansThere : MWV yX7_plansThere cX7_plansThere 6 (some .int) 0 := ⟨⟨by decide, by decide, by decide +kernel⟩, tw_627, tw_28, tw_626, tw_16⟩
theorem mw_X7_dishesKept : MWV yX7_dishesKept cX7_dishesKept 6 (some .int) 0 := ⟨⟨by decide, by decide, by decide +kernel⟩, tw_641, tw_28, tw_640, tw_18⟩
theorem mw_X7_tear : MWV yX7_tear cX7_tear 3 (some .int) 1 := ⟨⟨by decide, by decide, by decide +kernel⟩, tw_906, tw_28, tw_904, tw_905⟩
theorem mw_X7_isWay : MWS yX7_isWay cX7_isWay 2 (some .boolean) 2 := ⟨⟨by decide, by decide, by decide +kernel⟩, tw_768, tw_28, tw_767⟩
theorem mw_X7_isHeat : MWS yX7_isHeat cX7_isHeat 1 (some .boolean) 1 := ⟨⟨by decide, by decide, by decide +kernel⟩, tw_818, tw_28, tw_817⟩
theorem mw_X7_isSpan : MWS yX7_isSpan cX7_isSpan 2 (some .boolean) 2 := ⟨⟨by decide, by decide, by decide +kernel⟩, tw_487, tw_28, tw_486⟩
theorem mw_X7_isOf : MWS yX7_isOf cX7_isOf 4 (some .boolean) 2 := ⟨⟨by decide, by decide, by decide +kernel⟩, tw_635, tw_28, tw_634⟩
theorem mw_X7_hasBoth : MWV yX7_hasBoth cX7_hasBoth 4 (some .boolean) 1 := ⟨⟨by decide, by decide, by decide +kernel⟩, tw_857, tw_28, tw_856, tw_22⟩
theorem mw_X7_ticksOf : MWV yX7_ticksOf cX7_ticksOf 5 (some .int) 1 := ⟨⟨by decide, by decide, by decide +kernel⟩, tw_865, tw_28, tw_864, tw_24⟩
theorem mw_X7_rowsThere : MWV yX7_rowsThere cX7_rowsThere 6 (some .int) 0 := ⟨⟨by decide, by decide, by decide +kernel⟩, tw_645, tw_28, tw_644, tw_19⟩
theorem mw_X7_textsThere : MWV yX7_textsThere cX7_textsThere 6 (some .int) 0 := ⟨⟨by decide, by decide, by decide +kernel⟩, tw_649, tw_28, tw_648, tw_20⟩
theorem mw_X7_at : MWV yX7_at cX7_at 4 (some .int) 2 := ⟨⟨by decide, by decide, by decide +kernel⟩, tw_901, tw_28, tw_899, tw_900⟩
theorem mw_X7_text : MWV yX7_text cX7_text 4 (some .int) 2 := ⟨⟨by decide, by decide, by decide +kernel⟩, tw_700, tw_28, tw_698, tw_699⟩
theorem mw_X7_put : MWV yX7_put cX7_put 6 (some .int) 3 := ⟨⟨by decide, by decide, by decide +kernel⟩, tw_713, tw_28, tw_711, tw_712⟩
theorem mw_X7_wrongSlice : MWS yX7_wrongSlice cX7_wrongSlice 2 (some .int) 1 := ⟨⟨by decide, by decide, by decide +kernel⟩, tw_574, tw_28, tw_573⟩
theorem mw_X7_skinsOf : MWV yX7_skinsOf cX7_skinsOf 4 (some .int) 1 := ⟨⟨by decide, by decide, by decide +kernel⟩, tw_631, tw_28, tw_630, tw_17⟩
theorem mw_X7_dish : MWV yX7_dish cX7_dish 5 (some .int) 2 := ⟨⟨by decide, by decide, by decide +kernel⟩, tw_381, tw_28, tw_379, tw_380⟩
theorem mw_X7_depth : MWV yX7_depth cX7_depth 3 (some .int) 2 := ⟨⟨by decide, by decide, by decide +kernel⟩, tw_436, tw_28, tw_434, tw_435⟩
theorem mw_X7_skin : MWV yX7_skin cX7_skin 3 (some .int) 2 := ⟨⟨by decide, by decide, by decide +kernel⟩, tw_464, tw_28, tw_462, tw_463⟩
theorem mw_X7_just : MWV yX7_just cX7_just 3 (some .int) 2 := ⟨⟨by decide, by decide, by decide +kernel⟩, tw_484, tw_28, tw_482, tw_483⟩
theorem mw_X7_safe : MWV yX7_safe cX7_safe 6 (some .int) 2 := ⟨⟨by decide, by decide, by decide +kernel⟩, tw_815, tw_28, tw_813, tw_814⟩
theorem mw_X7_count : MWV yX7_count cX7_count 2 (some .int) 1 := ⟨⟨by decide, by decide, by decide +kernel⟩, tw_619, tw_28, tw_617, tw_618⟩
theorem mw_X7_go : MWV yX7_go cX7_go 2 (some .int) 1 := ⟨⟨by decide, by decide, by decide +kernel⟩, tw_400, tw_28, tw_398, tw_399⟩
theorem mw_X7_slice : MWV yX7_slice cX7_slice 4 (some .int) 1 := ⟨⟨by decide, by decide, by decide +kernel⟩, tw_500, tw_28, tw_498, tw_499⟩
theorem mw_X7_cut : MWV yX7_cut cX7_cut 2 (some .int) 1 := ⟨⟨by decide, by decide, by decide +kernel⟩, tw_531, tw_28, tw_529, tw_530⟩
theorem mw_X7_rise : MWV yX7_rise cX7_rise 5 (some .int) 0 := ⟨⟨by decide, by decide, by decide +kernel⟩, tw_548, tw_28, tw_546, tw_547⟩
theorem mw_X7_most : MWV yX7_most cX7_most 14 (some .int) 4 := ⟨⟨by decide, by decide, by decide +kernel⟩, tw_796, tw_28, tw_794, tw_795⟩
theorem mw_X7_off : MWV yX7_off cX7_off 10 (some .int) 4 := ⟨⟨by decide, by decide, by decide +kernel⟩, tw_803, tw_28, tw_801, tw_802⟩
theorem mw_X7_digest : MWV yX7_digest cX7_digest 7 (some .long) 0 := ⟨⟨by decide, by decide, by decide +kernel⟩, tw_613, tw_28, tw_611, tw_612⟩
theorem mw_X7_fault : MWV yX7_fault cX7_fault 4 (some .int) 2 := ⟨⟨by decide, by decide, by decide +kernel⟩, tw_726, tw_28, tw_724, tw_725⟩
theorem mw_X7_slab : MWV yX7_slab cX7_slab 6 (some .int) 2 := ⟨⟨by decide, by decide, by decide +kernel⟩, tw_742, tw_28, tw_740, tw_741⟩
theorem mw_X7_plan : MWV yX7_plan cX7_plan 5 (some .int) 2 := ⟨⟨by decide, by decide, by decide +kernel⟩, tw_301, tw_28, tw_299, tw_300⟩
theorem mw_X7_way : MWV yX7_way cX7_way 6 (some .int) 4 := ⟨⟨by decide, by decide, by decide +kernel⟩, tw_780, tw_28, tw_778, tw_779⟩
theorem mw_X7_often : MWV yX7_often cX7_often 6 (some .int) 4 := ⟨⟨by decide, by decide, by decide +kernel⟩, tw_788, tw_28, tw_786, tw_787⟩
theorem mw_X7_turns : MWV yX7_turns cX7_turns 8 (some .int) 3 := ⟨⟨by decide, by decide, by decide +kernel⟩, tw_765, tw_28, tw_763, tw_764⟩
theorem mw_X7_rest : MWV yX7_rest cX7_rest 8 (some .int) 2 := ⟨⟨by decide, by decide, by decide +kernel⟩, tw_561, tw_28, tw_559, tw_560⟩
theorem mw_X7_salt : MWV yX7_salt cX7_salt 8 (some .int) 2 := ⟨⟨by decide, by decide, by decide +kernel⟩, tw_839, tw_28, tw_837, tw_838⟩
theorem mw_X7_thick : MWV yX7_thick cX7_thick 10 (some .int) 4 := ⟨⟨by decide, by decide, by decide +kernel⟩, tw_846, tw_28, tw_844, tw_845⟩
theorem mw_X7_same : MWV yX7_same cX7_same 11 (some .int) 6 := ⟨⟨by decide, by decide, by decide +kernel⟩, tw_823, tw_28, tw_821, tw_822⟩
theorem mw_X7_rule : MWV yX7_rule cX7_rule 11 (some .int) 4 := ⟨⟨by decide, by decide, by decide +kernel⟩, tw_832, tw_28, tw_830, tw_831⟩
theorem mw_X7_tellLosses : MWV yX7_tellLosses cX7_tellLosses 10 none 2 := ⟨⟨by decide, by decide, by decide +kernel⟩, tw_861, tw_28, tw_860, tw_23⟩
theorem mw_X7_leastUnlike : MWV yX7_leastUnlike cX7_leastUnlike 6 (some .int) 1 := ⟨⟨by decide, by decide, by decide +kernel⟩, tw_586, tw_28, tw_585, tw_13⟩
theorem mw_X7_order : MWV yX7_order cX7_order 5 (some .int) 2 := ⟨⟨by decide, by decide, by decide +kernel⟩, tw_850, tw_28, tw_848, tw_849⟩
theorem mw_X7_which : MWV yX7_which cX7_which 6 (some .int) 1 := ⟨⟨by decide, by decide, by decide +kernel⟩, tw_571, tw_28, tw_569, tw_570⟩
theorem mw_X7_odds : MWV yX7_odds cX7_odds 9 (some .int) 2 := ⟨⟨by decide, by decide, by decide +kernel⟩, tw_597, tw_28, tw_595, tw_596⟩
theorem dX7_asked_0 : decode cX7_asked 0 = .ok (.aload_n 0, 1) := by decide +kernel
theorem dX7_asked_1 : decode cX7_asked 1 = .ok (.getfield 353, 3) := by decide +kernel
theorem dX7_asked_4 : decode cX7_asked 4 = .ok (.ireturn, 1) := by decide +kernel
theorem dX7_upper_0 : decode cX7_upper 0 = .ok (.aload_n 0, 1) := by decide +kernel
theorem dX7_upper_1 : decode cX7_upper 1 = .ok (.getfield 356, 3) := by decide +kernel
theorem dX7_upper_4 : decode cX7_upper 4 = .ok (.lreturn, 1) := by decide +kernel
theorem dX7_found_0 : decode cX7_found 0 = .ok (.aload_n 0, 1) := by decide +kernel
theorem dX7_found_1 : decode cX7_found 1 = .ok (.iload_n 1, 1) := by decide +kernel
theorem dX7_found_2 : decode cX7_found 2 = .ok (.putfield 377, 3) := by decide +kernel
theorem dX7_found_5 : decode cX7_found 5 = .ok (.iload_n 1, 1) := by decide +kernel
theorem dX7_found_6 : decode cX7_found 6 = .ok (.ifCond .lt 22, 3) := by decide +kernel
theorem dX7_found_9 : decode cX7_found 9 = .ok (.iload_n 1, 1) := by decide +kernel
theorem dX7_found_10 : decode cX7_found 10 = .ok (.aload_n 0, 1) := by decide +kernel
theorem dX7_found_11 : decode cX7_found 11 = .ok (.getfield 81, 3) := by decide +kernel
theorem dX7_found_14 : decode cX7_found 14 = .ok (.arraylength, 1) := by decide +kernel
theorem dX7_found_15 : decode cX7_found 15 = .ok (.if_icmp .ge 13, 3) := by decide +kernel
theorem dX7_found_18 : decode cX7_found 18 = .ok (.aload_n 0, 1) := by decide +kernel
theorem dX7_found_19 : decode cX7_found 19 = .ok (.getfield 81, 3) := by decide +kernel
theorem dX7_found_22 : decode cX7_found 22 = .ok (.iload_n 1, 1) := by decide +kernel
theorem dX7_found_23 : decode cX7_found 23 = .ok (.dup2, 1) := by decide +kernel
theorem dX7_found_24 : decode cX7_found 24 = .ok (.iaload, 1) := by decide +kernel
theorem dX7_found_25 : decode cX7_found 25 = .ok (.iconst 1, 1) := by decide +kernel
theorem dX7_found_26 : decode cX7_found 26 = .ok (.iadd, 1) := by decide +kernel
theorem dX7_found_27 : decode cX7_found 27 = .ok (.iastore, 1) := by decide +kernel
theorem dX7_found_28 : decode cX7_found 28 = .ok (.bipush (-3), 2) := by decide +kernel
theorem dX7_found_30 : decode cX7_found 30 = .ok (.ireturn, 1) := by decide +kernel
theorem dX7_told_0 : decode cX7_told 0 = .ok (.aload_n 0, 1) := by decide +kernel
theorem dX7_told_1 : decode cX7_told 1 = .ok (.iload_n 2, 1) := by decide +kernel
theorem dX7_told_2 : decode cX7_told 2 = .ok (.putfield 353, 3) := by decide +kernel
theorem dX7_told_5 : decode cX7_told 5 = .ok (.iload_n 1, 1) := by decide +kernel
theorem dX7_told_6 : decode cX7_told 6 = .ok (.ireturn, 1) := by decide +kernel
theorem dX7_tellFraction_0 : decode cX7_tellFraction 0 = .ok (.iload_n 1, 1) := by decide +kernel
theorem dX7_tellFraction_1 : decode cX7_tellFraction 1 = .ok (.istore_n 3, 1) := by decide +kernel
theorem dX7_tellFraction_2 : decode cX7_tellFraction 2 = .ok (.iload_n 2, 1) := by decide +kernel
theorem dX7_tellFraction_3 : decode cX7_tellFraction 3 = .ok (.istore 4, 2) := by decide +kernel
theorem dX7_tellFraction_5 : decode cX7_tellFraction 5 = .ok (.iconst 0, 1) := by decide +kernel
theorem dX7_tellFraction_6 : decode cX7_tellFraction 6 = .ok (.istore 5, 2) := by decide +kernel
theorem dX7_tellFraction_8 : decode cX7_tellFraction 8 = .ok (.iload 5, 2) := by decide +kernel
theorem dX7_tellFraction_10 : decode cX7_tellFraction 10 = .ok (.bipush 64, 2) := by decide +kernel
theorem dX7_tellFraction_12 : decode cX7_tellFraction 12 = .ok (.if_icmp .ge 27, 3) := by decide +kernel
theorem dX7_tellFraction_15 : decode cX7_tellFraction 15 = .ok (.iload 4, 2) := by decide +kernel
theorem dX7_tellFraction_17 : decode cX7_tellFraction 17 = .ok (.ifCond .eq 22, 3) := by decide +kernel
theorem dX7_tellFraction_20 : decode cX7_tellFraction 20 = .ok (.iload_n 3, 1) := by decide +kernel
theorem dX7_tellFraction_21 : decode cX7_tellFraction 21 = .ok (.iload 4, 2) := by decide +kernel
theorem dX7_tellFraction_23 : decode cX7_tellFraction 23 = .ok (.irem, 1) := by decide +kernel
theorem dX7_tellFraction_24 : decode cX7_tellFraction 24 = .ok (.istore 6, 2) := by decide +kernel
theorem dX7_tellFraction_26 : decode cX7_tellFraction 26 = .ok (.iload 4, 2) := by decide +kernel
theorem dX7_tellFraction_28 : decode cX7_tellFraction 28 = .ok (.istore_n 3, 1) := by decide +kernel
theorem dX7_tellFraction_29 : decode cX7_tellFraction 29 = .ok (.iload 6, 2) := by decide +kernel
theorem dX7_tellFraction_31 : decode cX7_tellFraction 31 = .ok (.istore 4, 2) := by decide +kernel
theorem dX7_tellFraction_33 : decode cX7_tellFraction 33 = .ok (.iinc 5 1, 3) := by decide +kernel
theorem dX7_tellFraction_36 : decode cX7_tellFraction 36 = .ok (.goto (-28), 3) := by decide +kernel
theorem dX7_tellFraction_39 : decode cX7_tellFraction 39 = .ok (.aload_n 0, 1) := by decide +kernel
theorem dX7_tellFraction_40 : decode cX7_tellFraction 40 = .ok (.iload_n 3, 1) := by decide +kernel
theorem dX7_tellFraction_41 : decode cX7_tellFraction 41 = .ok (.ifCond .ne 7, 3) := by decide +kernel
theorem dX7_tellFraction_44 : decode cX7_tellFraction 44 = .ok (.lconst 0, 1) := by decide +kernel
theorem dX7_tellFraction_45 : decode cX7_tellFraction 45 = .ok (.goto 7, 3) := by decide +kernel
theorem dX7_tellFraction_48 : decode cX7_tellFraction 48 = .ok (.iload_n 1, 1) := by decide +kernel
theorem dX7_tellFraction_49 : decode cX7_tellFraction 49 = .ok (.iload_n 3, 1) := by decide +kernel
theorem dX7_tellFraction_50 : decode cX7_tellFraction 50 = .ok (.idiv, 1) := by decide +kernel
theorem dX7_tellFraction_51 : decode cX7_tellFraction 51 = .ok (.i2l, 1) := by decide +kernel
theorem dX7_tellFraction_52 : decode cX7_tellFraction 52 = .ok (.putfield 356, 3) := by decide +kernel
theorem dX7_tellFraction_55 : decode cX7_tellFraction 55 = .ok (.aload_n 0, 1) := by decide +kernel
theorem dX7_tellFraction_56 : decode cX7_tellFraction 56 = .ok (.iload_n 3, 1) := by decide +kernel
theorem dX7_tellFraction_57 : decode cX7_tellFraction 57 = .ok (.ifCond .ne 7, 3) := by decide +kernel
theorem dX7_tellFraction_60 : decode cX7_tellFraction 60 = .ok (.lconst 1, 1) := by decide +kernel
theorem dX7_tellFraction_61 : decode cX7_tellFraction 61 = .ok (.goto 7, 3) := by decide +kernel
theorem dX7_tellFraction_64 : decode cX7_tellFraction 64 = .ok (.iload_n 2, 1) := by decide +kernel
theorem dX7_tellFraction_65 : decode cX7_tellFraction 65 = .ok (.iload_n 3, 1) := by decide +kernel
theorem dX7_tellFraction_66 : decode cX7_tellFraction 66 = .ok (.idiv, 1) := by decide +kernel
theorem dX7_tellFraction_67 : decode cX7_tellFraction 67 = .ok (.i2l, 1) := by decide +kernel
theorem dX7_tellFraction_68 : decode cX7_tellFraction 68 = .ok (.putfield 84, 3) := by decide +kernel
theorem dX7_tellFraction_71 : decode cX7_tellFraction 71 = .ok (.return_, 1) := by decide +kernel
theorem dX7_rowAt_0 : decode cX7_rowAt 0 = .ok (.iload_n 1, 1) := by decide +kernel
theorem dX7_rowAt_1 : decode cX7_rowAt 1 = .ok (.ifCond .lt 21, 3) := by decide +kernel
theorem dX7_rowAt_4 : decode cX7_rowAt 4 = .ok (.iload_n 1, 1) := by decide +kernel
theorem dX7_rowAt_5 : decode cX7_rowAt 5 = .ok (.aload_n 0, 1) := by decide +kernel
theorem dX7_rowAt_6 : decode cX7_rowAt 6 = .ok (.getfield 9, 3) := by decide +kernel
theorem dX7_rowAt_9 : decode cX7_rowAt 9 = .ok (.arraylength, 1) := by decide +kernel
theorem dX7_rowAt_10 : decode cX7_rowAt 10 = .ok (.if_icmp .ge 12, 3) := by decide +kernel
theorem dX7_rowAt_13 : decode cX7_rowAt 13 = .ok (.aload_n 0, 1) := by decide +kernel
theorem dX7_rowAt_14 : decode cX7_rowAt 14 = .ok (.getfield 9, 3) := by decide +kernel
theorem dX7_rowAt_17 : decode cX7_rowAt 17 = .ok (.iload_n 1, 1) := by decide +kernel
theorem dX7_rowAt_18 : decode cX7_rowAt 18 = .ok (.aaload, 1) := by decide +kernel
theorem dX7_rowAt_19 : decode cX7_rowAt 19 = .ok (.goto 4, 3) := by decide +kernel
theorem dX7_rowAt_22 : decode cX7_rowAt 22 = .ok (.aconst_null, 1) := by decide +kernel
theorem dX7_rowAt_23 : decode cX7_rowAt 23 = .ok (.areturn, 1) := by decide +kernel
theorem dX7_textAt_0 : decode cX7_textAt 0 = .ok (.iload_n 1, 1) := by decide +kernel
theorem dX7_textAt_1 : decode cX7_textAt 1 = .ok (.ifCond .lt 21, 3) := by decide +kernel
theorem dX7_textAt_4 : decode cX7_textAt 4 = .ok (.iload_n 1, 1) := by decide +kernel
theorem dX7_textAt_5 : decode cX7_textAt 5 = .ok (.aload_n 0, 1) := by decide +kernel
theorem dX7_textAt_6 : decode cX7_textAt 6 = .ok (.getfield 17, 3) := by decide +kernel
theorem dX7_textAt_9 : decode cX7_textAt 9 = .ok (.arraylength, 1) := by decide +kernel
theorem dX7_textAt_10 : decode cX7_textAt 10 = .ok (.if_icmp .ge 12, 3) := by decide +kernel
theorem dX7_textAt_13 : decode cX7_textAt 13 = .ok (.aload_n 0, 1) := by decide +kernel
theorem dX7_textAt_14 : decode cX7_textAt 14 = .ok (.getfield 17, 3) := by decide +kernel
theorem dX7_textAt_17 : decode cX7_textAt 17 = .ok (.iload_n 1, 1) := by decide +kernel
theorem dX7_textAt_18 : decode cX7_textAt 18 = .ok (.aaload, 1) := by decide +kernel
theorem dX7_textAt_19 : decode cX7_textAt 19 = .ok (.goto 4, 3) := by decide +kernel
theorem dX7_textAt_22 : decode cX7_textAt 22 = .ok (.aconst_null, 1) := by decide +kernel
theorem dX7_textAt_23 : decode cX7_textAt 23 = .ok (.areturn, 1) := by decide +kernel
theorem dX7_slabAt_0 : decode cX7_slabAt 0 = .ok (.iload_n 1, 1) := by decide +kernel
theorem dX7_slabAt_1 : decode cX7_slabAt 1 = .ok (.ifCond .lt 21, 3) := by decide +kernel
theorem dX7_slabAt_4 : decode cX7_slabAt 4 = .ok (.iload_n 1, 1) := by decide +kernel
theorem dX7_slabAt_5 : decode cX7_slabAt 5 = .ok (.aload_n 0, 1) := by decide +kernel
theorem dX7_slabAt_6 : decode cX7_slabAt 6 = .ok (.getfield 23, 3) := by decide +kernel
theorem dX7_slabAt_9 : decode cX7_slabAt 9 = .ok (.arraylength, 1) := by decide +kernel
theorem dX7_slabAt_10 : decode cX7_slabAt 10 = .ok (.if_icmp .ge 12, 3) := by decide +kernel
theorem dX7_slabAt_13 : decode cX7_slabAt 13 = .ok (.aload_n 0, 1) := by decide +kernel
theorem dX7_slabAt_14 : decode cX7_slabAt 14 = .ok (.getfield 23, 3) := by decide +kernel
theorem dX7_slabAt_17 : decode cX7_slabAt 17 = .ok (.iload_n 1, 1) := by decide +kernel
theorem dX7_slabAt_18 : decode cX7_slabAt 18 = .ok (.aaload, 1) := by decide +kernel
theorem dX7_slabAt_19 : decode cX7_slabAt 19 = .ok (.goto 4, 3) := by decide +kernel
theorem dX7_slabAt_22 : decode cX7_slabAt 22 = .ok (.aconst_null, 1) := by decide +kernel
theorem dX7_slabAt_23 : decode cX7_slabAt 23 = .ok (.areturn, 1) := by decide +kernel
theorem dX7_planAt_0 : decode cX7_planAt 0 = .ok (.iload_n 1, 1) := by decide +kernel
theorem dX7_planAt_1 : decode cX7_planAt 1 = .ok (.ifCond .lt 21, 3) := by decide +kernel
theorem dX7_planAt_4 : decode cX7_planAt 4 = .ok (.iload_n 1, 1) := by decide +kernel
theorem dX7_planAt_5 : decode cX7_planAt 5 = .ok (.aload_n 0, 1) := by decide +kernel
theorem dX7_planAt_6 : decode cX7_planAt 6 = .ok (.getfield 29, 3) := by decide +kernel
theorem dX7_planAt_9 : decode cX7_planAt 9 = .ok (.arraylength, 1) := by decide +kernel
theorem dX7_planAt_10 : decode cX7_planAt 10 = .ok (.if_icmp .ge 12, 3) := by decide +kernel
theorem dX7_planAt_13 : decode cX7_planAt 13 = .ok (.aload_n 0, 1) := by decide +kernel
theorem dX7_planAt_14 : decode cX7_planAt 14 = .ok (.getfield 29, 3) := by decide +kernel
theorem dX7_planAt_17 : decode cX7_planAt 17 = .ok (.iload_n 1, 1) := by decide +kernel
theorem dX7_planAt_18 : decode cX7_planAt 18 = .ok (.aaload, 1) := by decide +kernel
theorem dX7_planAt_19 : decode cX7_planAt 19 = .ok (.goto 4, 3) := by decide +kernel
theorem dX7_planAt_22 : decode cX7_planAt 22 = .ok (.aconst_null, 1) := by decide +kernel
theorem dX7_planAt_23 : decode cX7_planAt 23 = .ok (.areturn, 1) := by decide +kernel
theorem dX7_slabsThere_0 : decode cX7_slabsThere 0 = .ok (.iconst 0, 1) := by decide +kernel
theorem dX7_slabsThere_1 : decode cX7_slabsThere 1 = .ok (.istore_n 1, 1) := by decide +kernel
theorem dX7_slabsThere_2 : decode cX7_slabsThere 2 = .ok (.aload_n 0, 1) := by decide +kernel
theorem dX7_slabsThere_3 : decode cX7_slabsThere 3 = .ok (.getfield 23, 3) := by decide +kernel
theorem dX7_slabsThere_6 : decode cX7_slabsThere 6 = .ok (.astore_n 2, 1) := by decide +kernel
theorem dX7_slabsThere_7 : decode cX7_slabsThere 7 = .ok (.aload_n 2, 1) := by decide +kernel
theorem dX7_slabsThere_8 : decode cX7_slabsThere 8 = .ok (.arraylength, 1) := by decide +kernel
theorem dX7_slabsThere_9 : decode cX7_slabsThere 9 = .ok (.istore_n 3, 1) := by decide +kernel
theorem dX7_slabsThere_10 : decode cX7_slabsThere 10 = .ok (.iconst 0, 1) := by decide +kernel
theorem dX7_slabsThere_11 : decode cX7_slabsThere 11 = .ok (.istore 4, 2) := by decide +kernel
theorem dX7_slabsThere_13 : decode cX7_slabsThere 13 = .ok (.iload 4, 2) := by decide +kernel
theorem dX7_slabsThere_15 : decode cX7_slabsThere 15 = .ok (.iload_n 3, 1) := by decide +kernel
theorem dX7_slabsThere_16 : decode cX7_slabsThere 16 = .ok (.if_icmp .ge 36, 3) := by decide +kernel
theorem dX7_slabsThere_19 : decode cX7_slabsThere 19 = .ok (.aload_n 2, 1) := by decide +kernel
theorem dX7_slabsThere_20 : decode cX7_slabsThere 20 = .ok (.iload 4, 2) := by decide +kernel
theorem dX7_slabsThere_22 : decode cX7_slabsThere 22 = .ok (.aaload, 1) := by decide +kernel
theorem dX7_slabsThere_23 : decode cX7_slabsThere 23 = .ok (.astore 5, 2) := by decide +kernel
theorem dX7_slabsThere_25 : decode cX7_slabsThere 25 = .ok (.iload_n 1, 1) := by decide +kernel
theorem dX7_slabsThere_26 : decode cX7_slabsThere 26 = .ok (.aload 5, 2) := by decide +kernel
theorem dX7_slabsThere_28 : decode cX7_slabsThere 28 = .ok (.ifnull 15, 3) := by decide +kernel
theorem dX7_slabsThere_31 : decode cX7_slabsThere 31 = .ok (.aload 5, 2) := by decide +kernel
theorem dX7_slabsThere_33 : decode cX7_slabsThere 33 = .ok (.getfield 184, 3) := by decide +kernel
theorem dX7_slabsThere_36 : decode cX7_slabsThere 36 = .ok (.ifCond .eq 7, 3) := by decide +kernel
theorem dX7_slabsThere_39 : decode cX7_slabsThere 39 = .ok (.iconst 1, 1) := by decide +kernel
theorem dX7_slabsThere_40 : decode cX7_slabsThere 40 = .ok (.goto 4, 3) := by decide +kernel
theorem dX7_slabsThere_43 : decode cX7_slabsThere 43 = .ok (.iconst 0, 1) := by decide +kernel
theorem dX7_slabsThere_44 : decode cX7_slabsThere 44 = .ok (.iadd, 1) := by decide +kernel
theorem dX7_slabsThere_45 : decode cX7_slabsThere 45 = .ok (.istore_n 1, 1) := by decide +kernel
theorem dX7_slabsThere_46 : decode cX7_slabsThere 46 = .ok (.iinc 4 1, 3) := by decide +kernel
theorem dX7_slabsThere_49 : decode cX7_slabsThere 49 = .ok (.goto (-36), 3) := by decide +kernel
theorem dX7_slabsThere_52 : decode cX7_slabsThere 52 = .ok (.iload_n 1, 1) := by decide +kernel
theorem dX7_slabsThere_53 : decode cX7_slabsThere 53 = .ok (.ireturn, 1) := by decide +kernel
theorem dX7_plansThere_0 : decode cX7_plansThere 0 = .ok (.iconst 0, 1) := by decide +kernel
theorem dX7_plansThere_1 : decode cX7_plansThere 1 = .ok (.istore_n 1, 1) := by decide +kernel
theorem dX7_plansThere_2 : decode cX7_plansThere 2 = .ok (.aload_n 0, 1) := by decide +kernel
theorem dX7_plansThere_3 : decode cX7_plansThere 3 = .ok (.getfield 29, 3) := by decide +kernel
theorem dX7_plansThere_6 : decode cX7_plansThere 6 = .ok (.astore_n 2, 1) := by decide +kernel
theorem dX7_plansThere_7 : decode cX7_plansThere 7 = .ok (.aload_n 2, 1) := by decide +kernel
theorem dX7_plansThere_8 : decode cX7_plansThere 8 = .ok (.arraylength, 1) := by decide +kernel
theorem dX7_plansThere_9 : decode cX7_plansThere 9 = .ok (.istore_n 3, 1) := by decide +kernel
theorem dX7_plansThere_10 : decode cX7_plansThere 10 = .ok (.iconst 0, 1) := by decide +kernel
theorem dX7_plansThere_11 : decode cX7_plansThere 11 = .ok (.istore 4, 2) := by decide +kernel
theorem dX7_plansThere_13 : decode cX7_plansThere 13 = .ok (.iload 4, 2) := by decide +kernel
theorem dX7_plansThere_15 : decode cX7_plansThere 15 = .ok (.iload_n 3, 1) := by decide +kernel
theorem dX7_plansThere_16 : decode cX7_plansThere 16 = .ok (.if_icmp .ge 36, 3) := by decide +kernel
theorem dX7_plansThere_19 : decode cX7_plansThere 19 = .ok (.aload_n 2, 1) := by decide +kernel
theorem dX7_plansThere_20 : decode cX7_plansThere 20 = .ok (.iload 4, 2) := by decide +kernel
theorem dX7_plansThere_22 : decode cX7_plansThere 22 = .ok (.aaload, 1) := by decide +kernel
theorem dX7_plansThere_23 : decode cX7_plansThere 23 = .ok (.astore 5, 2) := by decide +kernel
theorem dX7_plansThere_25 : decode cX7_plansThere 25 = .ok (.iload_n 1, 1) := by decide +kernel
theorem dX7_plansThere_26 : decode cX7_plansThere 26 = .ok (.aload 5, 2) := by decide +kernel
theorem dX7_plansThere_28 : decode cX7_plansThere 28 = .ok (.ifnull 15, 3) := by decide +kernel
theorem dX7_plansThere_31 : decode cX7_plansThere 31 = .ok (.aload 5, 2) := by decide +kernel
theorem dX7_plansThere_33 : decode cX7_plansThere 33 = .ok (.getfield 190, 3) := by decide +kernel
theorem dX7_plansThere_36 : decode cX7_plansThere 36 = .ok (.ifCond .eq 7, 3) := by decide +kernel
theorem dX7_plansThere_39 : decode cX7_plansThere 39 = .ok (.iconst 1, 1) := by decide +kernel
theorem dX7_plansThere_40 : decode cX7_plansThere 40 = .ok (.goto 4, 3) := by decide +kernel
theorem dX7_plansThere_43 : decode cX7_plansThere 43 = .ok (.iconst 0, 1) := by decide +kernel
theorem dX7_plansThere_44 : decode cX7_plansThere 44 = .ok (.iadd, 1) := by decide +kernel
theorem dX7_plansThere_45 : decode cX7_plansThere 45 = .ok (.istore_n 1, 1) := by decide +kernel
theorem dX7_plansThere_46 : decode cX7_plansThere 46 = .ok (.iinc 4 1, 3) := by decide +kernel
theorem dX7_plansThere_49 : decode cX7_plansThere 49 = .ok (.goto (-36), 3) := by decide +kernel
theorem dX7_plansThere_52 : decode cX7_plansThere 52 = .ok (.iload_n 1, 1) := by decide +kernel
theorem dX7_plansThere_53 : decode cX7_plansThere 53 = .ok (.ireturn, 1) := by decide +kernel
theorem dX7_dishesKept_0 : decode cX7_dishesKept 0 = .ok (.iconst 0, 1) := by decide +kernel
theorem dX7_dishesKept_1 : decode cX7_dishesKept 1 = .ok (.istore_n 1, 1) := by decide +kernel
theorem dX7_dishesKept_2 : decode cX7_dishesKept 2 = .ok (.aload_n 0, 1) := by decide +kernel
theorem dX7_dishesKept_3 : decode cX7_dishesKept 3 = .ok (.getfield 40, 3) := by decide +kernel
theorem dX7_dishesKept_6 : decode cX7_dishesKept 6 = .ok (.astore_n 2, 1) := by decide +kernel
theorem dX7_dishesKept_7 : decode cX7_dishesKept 7 = .ok (.aload_n 2, 1) := by decide +kernel
theorem dX7_dishesKept_8 : decode cX7_dishesKept 8 = .ok (.arraylength, 1) := by decide +kernel
theorem dX7_dishesKept_9 : decode cX7_dishesKept 9 = .ok (.istore_n 3, 1) := by decide +kernel
theorem dX7_dishesKept_10 : decode cX7_dishesKept 10 = .ok (.iconst 0, 1) := by decide +kernel
theorem dX7_dishesKept_11 : decode cX7_dishesKept 11 = .ok (.istore 4, 2) := by decide +kernel
theorem dX7_dishesKept_13 : decode cX7_dishesKept 13 = .ok (.iload 4, 2) := by decide +kernel
theorem dX7_dishesKept_15 : decode cX7_dishesKept 15 = .ok (.iload_n 3, 1) := by decide +kernel
theorem dX7_dishesKept_16 : decode cX7_dishesKept 16 = .ok (.if_icmp .ge 36, 3) := by decide +kernel
theorem dX7_dishesKept_19 : decode cX7_dishesKept 19 = .ok (.aload_n 2, 1) := by decide +kernel
theorem dX7_dishesKept_20 : decode cX7_dishesKept 20 = .ok (.iload 4, 2) := by decide +kernel
theorem dX7_dishesKept_22 : decode cX7_dishesKept 22 = .ok (.aaload, 1) := by decide +kernel
theorem dX7_dishesKept_23 : decode cX7_dishesKept 23 = .ok (.astore 5, 2) := by decide +kernel
theorem dX7_dishesKept_25 : decode cX7_dishesKept 25 = .ok (.iload_n 1, 1) := by decide +kernel
theorem dX7_dishesKept_26 : decode cX7_dishesKept 26 = .ok (.aload 5, 2) := by decide +kernel
theorem dX7_dishesKept_28 : decode cX7_dishesKept 28 = .ok (.ifnull 15, 3) := by decide +kernel
theorem dX7_dishesKept_31 : decode cX7_dishesKept 31 = .ok (.aload 5, 2) := by decide +kernel
theorem dX7_dishesKept_33 : decode cX7_dishesKept 33 = .ok (.getfield 210, 3) := by decide +kernel
theorem dX7_dishesKept_36 : decode cX7_dishesKept 36 = .ok (.ifCond .eq 7, 3) := by decide +kernel
theorem dX7_dishesKept_39 : decode cX7_dishesKept 39 = .ok (.iconst 1, 1) := by decide +kernel
theorem dX7_dishesKept_40 : decode cX7_dishesKept 40 = .ok (.goto 4, 3) := by decide +kernel
theorem dX7_dishesKept_43 : decode cX7_dishesKept 43 = .ok (.iconst 0, 1) := by decide +kernel
theorem dX7_dishesKept_44 : decode cX7_dishesKept 44 = .ok (.iadd, 1) := by decide +kernel
theorem dX7_dishesKept_45 : decode cX7_dishesKept 45 = .ok (.istore_n 1, 1) := by decide +kernel
theorem dX7_dishesKept_46 : decode cX7_dishesKept 46 = .ok (.iinc 4 1, 3) := by decide +kernel
theorem dX7_dishesKept_49 : decode cX7_dishesKept 49 = .ok (.goto (-36), 3) := by decide +kernel
theorem dX7_dishesKept_52 : decode cX7_dishesKept 52 = .ok (.iload_n 1, 1) := by decide +kernel
theorem dX7_dishesKept_53 : decode cX7_dishesKept 53 = .ok (.ireturn, 1) := by decide +kernel
theorem dX7_tear_0 : decode cX7_tear 0 = .ok (.aload_n 0, 1) := by decide +kernel
theorem dX7_tear_1 : decode cX7_tear 1 = .ok (.iload_n 1, 1) := by decide +kernel
theorem dX7_tear_2 : decode cX7_tear 2 = .ok (.invokevirtual 90, 3) := by decide +kernel
theorem dX7_tear_5 : decode cX7_tear 5 = .ok (.astore_n 2, 1) := by decide +kernel
theorem dX7_tear_6 : decode cX7_tear 6 = .ok (.aload_n 2, 1) := by decide +kernel
theorem dX7_tear_7 : decode cX7_tear 7 = .ok (.ifnonnull 5, 3) := by decide +kernel
theorem dX7_tear_10 : decode cX7_tear 10 = .ok (.iconst (-1), 1) := by decide +kernel
theorem dX7_tear_11 : decode cX7_tear 11 = .ok (.ireturn, 1) := by decide +kernel
theorem dX7_tear_12 : decode cX7_tear 12 = .ok (.aload_n 2, 1) := by decide +kernel
theorem dX7_tear_13 : decode cX7_tear 13 = .ok (.invokevirtual 102, 3) := by decide +kernel
theorem dX7_tear_16 : decode cX7_tear 16 = .ok (.ifCond .ne 9, 3) := by decide +kernel
theorem dX7_tear_19 : decode cX7_tear 19 = .ok (.aload_n 0, 1) := by decide +kernel
theorem dX7_tear_20 : decode cX7_tear 20 = .ok (.iconst 1, 1) := by decide +kernel
theorem dX7_tear_21 : decode cX7_tear 21 = .ok (.invokevirtual 94, 3) := by decide +kernel
theorem dX7_tear_24 : decode cX7_tear 24 = .ok (.ireturn, 1) := by decide +kernel
theorem dX7_tear_25 : decode cX7_tear 25 = .ok (.aload_n 2, 1) := by decide +kernel
theorem dX7_tear_26 : decode cX7_tear 26 = .ok (.iconst (-1), 1) := by decide +kernel
theorem dX7_tear_27 : decode cX7_tear 27 = .ok (.putfield 121, 3) := by decide +kernel
theorem dX7_tear_30 : decode cX7_tear 30 = .ok (.iconst 1, 1) := by decide +kernel
theorem dX7_tear_31 : decode cX7_tear 31 = .ok (.ireturn, 1) := by decide +kernel
theorem dX7_isWay_0 : decode cX7_isWay 0 = .ok (.iload_n 0, 1) := by decide +kernel
theorem dX7_isWay_1 : decode cX7_isWay 1 = .ok (.bipush 10, 2) := by decide +kernel
theorem dX7_isWay_3 : decode cX7_isWay 3 = .ok (.bipush 30, 2) := by decide +kernel
theorem dX7_isWay_5 : decode cX7_isWay 5 = .ok (.invokestatic 180, 3) := by decide +kernel
theorem dX7_isWay_8 : decode cX7_isWay 8 = .ok (.ifCond .eq 17, 3) := by decide +kernel
theorem dX7_isWay_11 : decode cX7_isWay 11 = .ok (.iload_n 1, 1) := by decide +kernel
theorem dX7_isWay_12 : decode cX7_isWay 12 = .ok (.iconst 1, 1) := by decide +kernel
theorem dX7_isWay_13 : decode cX7_isWay 13 = .ok (.bipush 60, 2) := by decide +kernel
theorem dX7_isWay_15 : decode cX7_isWay 15 = .ok (.invokestatic 180, 3) := by decide +kernel
theorem dX7_isWay_18 : decode cX7_isWay 18 = .ok (.ifCond .eq 7, 3) := by decide +kernel
theorem dX7_isWay_21 : decode cX7_isWay 21 = .ok (.iconst 1, 1) := by decide +kernel
theorem dX7_isWay_22 : decode cX7_isWay 22 = .ok (.goto 4, 3) := by decide +kernel
theorem dX7_isWay_25 : decode cX7_isWay 25 = .ok (.iconst 0, 1) := by decide +kernel
theorem dX7_isWay_26 : decode cX7_isWay 26 = .ok (.ireturn, 1) := by decide +kernel
theorem dX7_isHeat_0 : decode cX7_isHeat 0 = .ok (.iload_n 0, 1) := by decide +kernel
theorem dX7_isHeat_1 : decode cX7_isHeat 1 = .ok (.iconst 2, 1) := by decide +kernel
theorem dX7_isHeat_2 : decode cX7_isHeat 2 = .ok (.bipush 30, 2) := by decide +kernel
theorem dX7_isHeat_4 : decode cX7_isHeat 4 = .ok (.invokestatic 180, 3) := by decide +kernel
theorem dX7_isHeat_7 : decode cX7_isHeat 7 = .ok (.ireturn, 1) := by decide +kernel
theorem dX7_isSpan_0 : decode cX7_isSpan 0 = .ok (.iload_n 0, 1) := by decide +kernel
theorem dX7_isSpan_1 : decode cX7_isSpan 1 = .ok (.iconst 0, 1) := by decide +kernel
theorem dX7_isSpan_2 : decode cX7_isSpan 2 = .ok (.sipush 4000, 3) := by decide +kernel
theorem dX7_isSpan_5 : decode cX7_isSpan 5 = .ok (.invokestatic 180, 3) := by decide +kernel
theorem dX7_isSpan_8 : decode cX7_isSpan 8 = .ok (.ifCond .eq 23, 3) := by decide +kernel
theorem dX7_isSpan_11 : decode cX7_isSpan 11 = .ok (.iload_n 1, 1) := by decide +kernel
theorem dX7_isSpan_12 : decode cX7_isSpan 12 = .ok (.iconst 0, 1) := by decide +kernel
theorem dX7_isSpan_13 : decode cX7_isSpan 13 = .ok (.sipush 4000, 3) := by decide +kernel
theorem dX7_isSpan_16 : decode cX7_isSpan 16 = .ok (.invokestatic 180, 3) := by decide +kernel
theorem dX7_isSpan_19 : decode cX7_isSpan 19 = .ok (.ifCond .eq 12, 3) := by decide +kernel
theorem dX7_isSpan_22 : decode cX7_isSpan 22 = .ok (.iload_n 0, 1) := by decide +kernel
theorem dX7_isSpan_23 : decode cX7_isSpan 23 = .ok (.iload_n 1, 1) := by decide +kernel
theorem dX7_isSpan_24 : decode cX7_isSpan 24 = .ok (.if_icmp .gt 7, 3) := by decide +kernel
theorem dX7_isSpan_27 : decode cX7_isSpan 27 = .ok (.iconst 1, 1) := by decide +kernel
theorem dX7_isSpan_28 : decode cX7_isSpan 28 = .ok (.goto 4, 3) := by decide +kernel
theorem dX7_isSpan_31 : decode cX7_isSpan 31 = .ok (.iconst 0, 1) := by decide +kernel
theorem dX7_isSpan_32 : decode cX7_isSpan 32 = .ok (.ireturn, 1) := by decide +kernel
theorem dX7_isOf_0 : decode cX7_isOf 0 = .ok (.iload_n 0, 1) := by decide +kernel
theorem dX7_isOf_1 : decode cX7_isOf 1 = .ok (.istore_n 2, 1) := by decide +kernel
theorem dX7_isOf_2 : decode cX7_isOf 2 = .ok (.iconst 0, 1) := by decide +kernel
theorem dX7_isOf_3 : decode cX7_isOf 3 = .ok (.istore_n 3, 1) := by decide +kernel
theorem dX7_isOf_4 : decode cX7_isOf 4 = .ok (.iload_n 3, 1) := by decide +kernel
theorem dX7_isOf_5 : decode cX7_isOf 5 = .ok (.getstatic 394, 3) := by decide +kernel
theorem dX7_isOf_8 : decode cX7_isOf 8 = .ok (.arraylength, 1) := by decide +kernel
theorem dX7_isOf_9 : decode cX7_isOf 9 = .ok (.if_icmp .ge 36, 3) := by decide +kernel
theorem dX7_isOf_12 : decode cX7_isOf 12 = .ok (.iload_n 2, 1) := by decide +kernel
theorem dX7_isOf_13 : decode cX7_isOf 13 = .ok (.iconst 0, 1) := by decide +kernel
theorem dX7_isOf_14 : decode cX7_isOf 14 = .ok (.getstatic 394, 3) := by decide +kernel
theorem dX7_isOf_17 : decode cX7_isOf 17 = .ok (.arraylength, 1) := by decide +kernel
theorem dX7_isOf_18 : decode cX7_isOf 18 = .ok (.iconst 1, 1) := by decide +kernel
theorem dX7_isOf_19 : decode cX7_isOf 19 = .ok (.isub, 1) := by decide +kernel
theorem dX7_isOf_20 : decode cX7_isOf 20 = .ok (.invokestatic 180, 3) := by decide +kernel
theorem dX7_isOf_23 : decode cX7_isOf 23 = .ok (.ifCond .eq 22, 3) := by decide +kernel
theorem dX7_isOf_26 : decode cX7_isOf 26 = .ok (.iload_n 2, 1) := by decide +kernel
theorem dX7_isOf_27 : decode cX7_isOf 27 = .ok (.iload_n 1, 1) := by decide +kernel
theorem dX7_isOf_28 : decode cX7_isOf 28 = .ok (.if_icmp .ne 5, 3) := by decide +kernel
theorem dX7_isOf_31 : decode cX7_isOf 31 = .ok (.iconst 1, 1) := by decide +kernel
theorem dX7_isOf_32 : decode cX7_isOf 32 = .ok (.ireturn, 1) := by decide +kernel
theorem dX7_isOf_33 : decode cX7_isOf 33 = .ok (.getstatic 394, 3) := by decide +kernel
theorem dX7_isOf_36 : decode cX7_isOf 36 = .ok (.iload_n 2, 1) := by decide +kernel
theorem dX7_isOf_37 : decode cX7_isOf 37 = .ok (.iaload, 1) := by decide +kernel
theorem dX7_isOf_38 : decode cX7_isOf 38 = .ok (.istore_n 2, 1) := by decide +kernel
theorem dX7_isOf_39 : decode cX7_isOf 39 = .ok (.iinc 3 1, 3) := by decide +kernel
theorem dX7_isOf_42 : decode cX7_isOf 42 = .ok (.goto (-38), 3) := by decide +kernel
theorem dX7_isOf_45 : decode cX7_isOf 45 = .ok (.iconst 0, 1) := by decide +kernel
theorem dX7_isOf_46 : decode cX7_isOf 46 = .ok (.ireturn, 1) := by decide +kernel
theorem dX7_hasBoth_0 : decode cX7_hasBoth 0 = .ok (.aload_n 0, 1) := by decide +kernel
theorem dX7_hasBoth_1 : decode cX7_hasBoth 1 = .ok (.iload_n 1, 1) := by decide +kernel
theorem dX7_hasBoth_2 : decode cX7_hasBoth 2 = .ok (.invokevirtual 162, 3) := by decide +kernel
theorem dX7_hasBoth_5 : decode cX7_hasBoth 5 = .ok (.astore_n 2, 1) := by decide +kernel
theorem dX7_hasBoth_6 : decode cX7_hasBoth 6 = .ok (.aload_n 0, 1) := by decide +kernel
theorem dX7_hasBoth_7 : decode cX7_hasBoth 7 = .ok (.iload_n 1, 1) := by decide +kernel
theorem dX7_hasBoth_8 : decode cX7_hasBoth 8 = .ok (.invokevirtual 170, 3) := by decide +kernel
theorem dX7_hasBoth_11 : decode cX7_hasBoth 11 = .ok (.astore_n 3, 1) := by decide +kernel
theorem dX7_hasBoth_12 : decode cX7_hasBoth 12 = .ok (.aload_n 2, 1) := by decide +kernel
theorem dX7_hasBoth_13 : decode cX7_hasBoth 13 = .ok (.ifnull 25, 3) := by decide +kernel
theorem dX7_hasBoth_16 : decode cX7_hasBoth 16 = .ok (.aload_n 3, 1) := by decide +kernel
theorem dX7_hasBoth_17 : decode cX7_hasBoth 17 = .ok (.ifnull 21, 3) := by decide +kernel
theorem dX7_hasBoth_20 : decode cX7_hasBoth 20 = .ok (.aload_n 2, 1) := by decide +kernel
theorem dX7_hasBoth_21 : decode cX7_hasBoth 21 = .ok (.getfield 184, 3) := by decide +kernel
theorem dX7_hasBoth_24 : decode cX7_hasBoth 24 = .ok (.ifCond .eq 14, 3) := by decide +kernel
theorem dX7_hasBoth_27 : decode cX7_hasBoth 27 = .ok (.aload_n 3, 1) := by decide +kernel
theorem dX7_hasBoth_28 : decode cX7_hasBoth 28 = .ok (.getfield 190, 3) := by decide +kernel
theorem dX7_hasBoth_31 : decode cX7_hasBoth 31 = .ok (.ifCond .eq 7, 3) := by decide +kernel
theorem dX7_hasBoth_34 : decode cX7_hasBoth 34 = .ok (.iconst 1, 1) := by decide +kernel
theorem dX7_hasBoth_35 : decode cX7_hasBoth 35 = .ok (.goto 4, 3) := by decide +kernel
theorem dX7_hasBoth_38 : decode cX7_hasBoth 38 = .ok (.iconst 0, 1) := by decide +kernel
theorem dX7_hasBoth_39 : decode cX7_hasBoth 39 = .ok (.ireturn, 1) := by decide +kernel
theorem dX7_ticksOf_0 : decode cX7_ticksOf 0 = .ok (.iconst 0, 1) := by decide +kernel
theorem dX7_ticksOf_1 : decode cX7_ticksOf 1 = .ok (.istore_n 2, 1) := by decide +kernel
theorem dX7_ticksOf_2 : decode cX7_ticksOf 2 = .ok (.iconst 0, 1) := by decide +kernel
theorem dX7_ticksOf_3 : decode cX7_ticksOf 3 = .ok (.istore_n 3, 1) := by decide +kernel
theorem dX7_ticksOf_4 : decode cX7_ticksOf 4 = .ok (.iload_n 3, 1) := by decide +kernel
theorem dX7_ticksOf_5 : decode cX7_ticksOf 5 = .ok (.aload_n 0, 1) := by decide +kernel
theorem dX7_ticksOf_6 : decode cX7_ticksOf 6 = .ok (.getfield 29, 3) := by decide +kernel
theorem dX7_ticksOf_9 : decode cX7_ticksOf 9 = .ok (.arraylength, 1) := by decide +kernel
theorem dX7_ticksOf_10 : decode cX7_ticksOf 10 = .ok (.if_icmp .ge 41, 3) := by decide +kernel
theorem dX7_ticksOf_13 : decode cX7_ticksOf 13 = .ok (.aload_n 0, 1) := by decide +kernel
theorem dX7_ticksOf_14 : decode cX7_ticksOf 14 = .ok (.iload_n 3, 1) := by decide +kernel
theorem dX7_ticksOf_15 : decode cX7_ticksOf 15 = .ok (.invokevirtual 170, 3) := by decide +kernel
theorem dX7_ticksOf_18 : decode cX7_ticksOf 18 = .ok (.astore 4, 2) := by decide +kernel
theorem dX7_ticksOf_20 : decode cX7_ticksOf 20 = .ok (.iload_n 2, 1) := by decide +kernel
theorem dX7_ticksOf_21 : decode cX7_ticksOf 21 = .ok (.aload 4, 2) := by decide +kernel
theorem dX7_ticksOf_23 : decode cX7_ticksOf 23 = .ok (.ifnull 19, 3) := by decide +kernel
theorem dX7_ticksOf_26 : decode cX7_ticksOf 26 = .ok (.iload_n 3, 1) := by decide +kernel
theorem dX7_ticksOf_27 : decode cX7_ticksOf 27 = .ok (.iload_n 1, 1) := by decide +kernel
theorem dX7_ticksOf_28 : decode cX7_ticksOf 28 = .ok (.invokestatic 317, 3) := by decide +kernel
theorem dX7_ticksOf_31 : decode cX7_ticksOf 31 = .ok (.ifCond .eq 11, 3) := by decide +kernel
theorem dX7_ticksOf_34 : decode cX7_ticksOf 34 = .ok (.aload 4, 2) := by decide +kernel
theorem dX7_ticksOf_36 : decode cX7_ticksOf 36 = .ok (.getfield 211, 3) := by decide +kernel
theorem dX7_ticksOf_39 : decode cX7_ticksOf 39 = .ok (.goto 4, 3) := by decide +kernel
theorem dX7_ticksOf_42 : decode cX7_ticksOf 42 = .ok (.iconst 0, 1) := by decide +kernel
theorem dX7_ticksOf_43 : decode cX7_ticksOf 43 = .ok (.iadd, 1) := by decide +kernel
theorem dX7_ticksOf_44 : decode cX7_ticksOf 44 = .ok (.istore_n 2, 1) := by decide +kernel
theorem dX7_ticksOf_45 : decode cX7_ticksOf 45 = .ok (.iinc 3 1, 3) := by decide +kernel
theorem dX7_ticksOf_48 : decode cX7_ticksOf 48 = .ok (.goto (-44), 3) := by decide +kernel
theorem dX7_ticksOf_51 : decode cX7_ticksOf 51 = .ok (.iload_n 2, 1) := by decide +kernel
theorem dX7_ticksOf_52 : decode cX7_ticksOf 52 = .ok (.ireturn, 1) := by decide +kernel
theorem dX7_rowsThere_0 : decode cX7_rowsThere 0 = .ok (.iconst 0, 1) := by decide +kernel
theorem dX7_rowsThere_1 : decode cX7_rowsThere 1 = .ok (.istore_n 1, 1) := by decide +kernel
theorem dX7_rowsThere_2 : decode cX7_rowsThere 2 = .ok (.aload_n 0, 1) := by decide +kernel
theorem dX7_rowsThere_3 : decode cX7_rowsThere 3 = .ok (.getfield 9, 3) := by decide +kernel
theorem dX7_rowsThere_6 : decode cX7_rowsThere 6 = .ok (.astore_n 2, 1) := by decide +kernel
theorem dX7_rowsThere_7 : decode cX7_rowsThere 7 = .ok (.aload_n 2, 1) := by decide +kernel
theorem dX7_rowsThere_8 : decode cX7_rowsThere 8 = .ok (.arraylength, 1) := by decide +kernel
theorem dX7_rowsThere_9 : decode cX7_rowsThere 9 = .ok (.istore_n 3, 1) := by decide +kernel
theorem dX7_rowsThere_10 : decode cX7_rowsThere 10 = .ok (.iconst 0, 1) := by decide +kernel
theorem dX7_rowsThere_11 : decode cX7_rowsThere 11 = .ok (.istore 4, 2) := by decide +kernel
theorem dX7_rowsThere_13 : decode cX7_rowsThere 13 = .ok (.iload 4, 2) := by decide +kernel
theorem dX7_rowsThere_15 : decode cX7_rowsThere 15 = .ok (.iload_n 3, 1) := by decide +kernel
theorem dX7_rowsThere_16 : decode cX7_rowsThere 16 = .ok (.if_icmp .ge 36, 3) := by decide +kernel
theorem dX7_rowsThere_19 : decode cX7_rowsThere 19 = .ok (.aload_n 2, 1) := by decide +kernel
theorem dX7_rowsThere_20 : decode cX7_rowsThere 20 = .ok (.iload 4, 2) := by decide +kernel
theorem dX7_rowsThere_22 : decode cX7_rowsThere 22 = .ok (.aaload, 1) := by decide +kernel
theorem dX7_rowsThere_23 : decode cX7_rowsThere 23 = .ok (.astore 5, 2) := by decide +kernel
theorem dX7_rowsThere_25 : decode cX7_rowsThere 25 = .ok (.iload_n 1, 1) := by decide +kernel
theorem dX7_rowsThere_26 : decode cX7_rowsThere 26 = .ok (.aload 5, 2) := by decide +kernel
theorem dX7_rowsThere_28 : decode cX7_rowsThere 28 = .ok (.ifnull 15, 3) := by decide +kernel
theorem dX7_rowsThere_31 : decode cX7_rowsThere 31 = .ok (.aload 5, 2) := by decide +kernel
theorem dX7_rowsThere_33 : decode cX7_rowsThere 33 = .ok (.invokevirtual 102, 3) := by decide +kernel
theorem dX7_rowsThere_36 : decode cX7_rowsThere 36 = .ok (.ifCond .eq 7, 3) := by decide +kernel
theorem dX7_rowsThere_39 : decode cX7_rowsThere 39 = .ok (.iconst 1, 1) := by decide +kernel
theorem dX7_rowsThere_40 : decode cX7_rowsThere 40 = .ok (.goto 4, 3) := by decide +kernel
theorem dX7_rowsThere_43 : decode cX7_rowsThere 43 = .ok (.iconst 0, 1) := by decide +kernel
theorem dX7_rowsThere_44 : decode cX7_rowsThere 44 = .ok (.iadd, 1) := by decide +kernel
theorem dX7_rowsThere_45 : decode cX7_rowsThere 45 = .ok (.istore_n 1, 1) := by decide +kernel
theorem dX7_rowsThere_46 : decode cX7_rowsThere 46 = .ok (.iinc 4 1, 3) := by decide +kernel
theorem dX7_rowsThere_49 : decode cX7_rowsThere 49 = .ok (.goto (-36), 3) := by decide +kernel
theorem dX7_rowsThere_52 : decode cX7_rowsThere 52 = .ok (.iload_n 1, 1) := by decide +kernel
theorem dX7_rowsThere_53 : decode cX7_rowsThere 53 = .ok (.ireturn, 1) := by decide +kernel
theorem dX7_textsThere_0 : decode cX7_textsThere 0 = .ok (.iconst 0, 1) := by decide +kernel
theorem dX7_textsThere_1 : decode cX7_textsThere 1 = .ok (.istore_n 1, 1) := by decide +kernel
theorem dX7_textsThere_2 : decode cX7_textsThere 2 = .ok (.aload_n 0, 1) := by decide +kernel
theorem dX7_textsThere_3 : decode cX7_textsThere 3 = .ok (.getfield 17, 3) := by decide +kernel
theorem dX7_textsThere_6 : decode cX7_textsThere 6 = .ok (.astore_n 2, 1) := by decide +kernel
theorem dX7_textsThere_7 : decode cX7_textsThere 7 = .ok (.aload_n 2, 1) := by decide +kernel
theorem dX7_textsThere_8 : decode cX7_textsThere 8 = .ok (.arraylength, 1) := by decide +kernel
theorem dX7_textsThere_9 : decode cX7_textsThere 9 = .ok (.istore_n 3, 1) := by decide +kernel
theorem dX7_textsThere_10 : decode cX7_textsThere 10 = .ok (.iconst 0, 1) := by decide +kernel
theorem dX7_textsThere_11 : decode cX7_textsThere 11 = .ok (.istore 4, 2) := by decide +kernel
theorem dX7_textsThere_13 : decode cX7_textsThere 13 = .ok (.iload 4, 2) := by decide +kernel
theorem dX7_textsThere_15 : decode cX7_textsThere 15 = .ok (.iload_n 3, 1) := by decide +kernel
theorem dX7_textsThere_16 : decode cX7_textsThere 16 = .ok (.if_icmp .ge 36, 3) := by decide +kernel
theorem dX7_textsThere_19 : decode cX7_textsThere 19 = .ok (.aload_n 2, 1) := by decide +kernel
theorem dX7_textsThere_20 : decode cX7_textsThere 20 = .ok (.iload 4, 2) := by decide +kernel
theorem dX7_textsThere_22 : decode cX7_textsThere 22 = .ok (.aaload, 1) := by decide +kernel
theorem dX7_textsThere_23 : decode cX7_textsThere 23 = .ok (.astore 5, 2) := by decide +kernel
theorem dX7_textsThere_25 : decode cX7_textsThere 25 = .ok (.iload_n 1, 1) := by decide +kernel
theorem dX7_textsThere_26 : decode cX7_textsThere 26 = .ok (.aload 5, 2) := by decide +kernel
theorem dX7_textsThere_28 : decode cX7_textsThere 28 = .ok (.ifnull 15, 3) := by decide +kernel
theorem dX7_textsThere_31 : decode cX7_textsThere 31 = .ok (.aload 5, 2) := by decide +kernel
theorem dX7_textsThere_33 : decode cX7_textsThere 33 = .ok (.invokevirtual 147, 3) := by decide +kernel
theorem dX7_textsThere_36 : decode cX7_textsThere 36 = .ok (.ifCond .eq 7, 3) := by decide +kernel
theorem dX7_textsThere_39 : decode cX7_textsThere 39 = .ok (.iconst 1, 1) := by decide +kernel
theorem dX7_textsThere_40 : decode cX7_textsThere 40 = .ok (.goto 4, 3) := by decide +kernel
theorem dX7_textsThere_43 : decode cX7_textsThere 43 = .ok (.iconst 0, 1) := by decide +kernel
theorem dX7_textsThere_44 : decode cX7_textsThere 44 = .ok (.iadd, 1) := by decide +kernel
theorem dX7_textsThere_45 : decode cX7_textsThere 45 = .ok (.istore_n 1, 1) := by decide +kernel
theorem dX7_textsThere_46 : decode cX7_textsThere 46 = .ok (.iinc 4 1, 3) := by decide +kernel
theorem dX7_textsThere_49 : decode cX7_textsThere 49 = .ok (.goto (-36), 3) := by decide +kernel
theorem dX7_textsThere_52 : decode cX7_textsThere 52 = .ok (.iload_n 1, 1) := by decide +kernel
theorem dX7_textsThere_53 : decode cX7_textsThere 53 = .ok (.ireturn, 1) := by decide +kernel
theorem dX7_at_0 : decode cX7_at 0 = .ok (.aload_n 0, 1) := by decide +kernel
theorem dX7_at_1 : decode cX7_at 1 = .ok (.iload_n 1, 1) := by decide +kernel
theorem dX7_at_2 : decode cX7_at 2 = .ok (.invokevirtual 90, 3) := by decide +kernel
theorem dX7_at_5 : decode cX7_at 5 = .ok (.astore_n 3, 1) := by decide +kernel
theorem dX7_at_6 : decode cX7_at 6 = .ok (.aload_n 3, 1) := by decide +kernel
theorem dX7_at_7 : decode cX7_at 7 = .ok (.ifnonnull 5, 3) := by decide +kernel
theorem dX7_at_10 : decode cX7_at 10 = .ok (.iconst (-1), 1) := by decide +kernel
theorem dX7_at_11 : decode cX7_at 11 = .ok (.ireturn, 1) := by decide +kernel
theorem dX7_at_12 : decode cX7_at 12 = .ok (.aload_n 3, 1) := by decide +kernel
theorem dX7_at_13 : decode cX7_at 13 = .ok (.invokevirtual 102, 3) := by decide +kernel
theorem dX7_at_16 : decode cX7_at 16 = .ok (.ifCond .ne 9, 3) := by decide +kernel
theorem dX7_at_19 : decode cX7_at 19 = .ok (.aload_n 0, 1) := by decide +kernel
theorem dX7_at_20 : decode cX7_at 20 = .ok (.iconst 1, 1) := by decide +kernel
theorem dX7_at_21 : decode cX7_at 21 = .ok (.invokevirtual 94, 3) := by decide +kernel
theorem dX7_at_24 : decode cX7_at 24 = .ok (.ireturn, 1) := by decide +kernel
theorem dX7_at_25 : decode cX7_at 25 = .ok (.aload_n 3, 1) := by decide +kernel
theorem dX7_at_26 : decode cX7_at 26 = .ok (.iload_n 2, 1) := by decide +kernel
theorem dX7_at_27 : decode cX7_at 27 = .ok (.invokevirtual 106, 3) := by decide +kernel
theorem dX7_at_30 : decode cX7_at 30 = .ok (.ifCond .ne 9, 3) := by decide +kernel
theorem dX7_at_33 : decode cX7_at 33 = .ok (.aload_n 0, 1) := by decide +kernel
theorem dX7_at_34 : decode cX7_at 34 = .ok (.iconst 2, 1) := by decide +kernel
theorem dX7_at_35 : decode cX7_at 35 = .ok (.invokevirtual 94, 3) := by decide +kernel
theorem dX7_at_38 : decode cX7_at 38 = .ok (.ireturn, 1) := by decide +kernel
theorem dX7_at_39 : decode cX7_at 39 = .ok (.aload_n 0, 1) := by decide +kernel
theorem dX7_at_40 : decode cX7_at 40 = .ok (.iconst 1, 1) := by decide +kernel
theorem dX7_at_41 : decode cX7_at 41 = .ok (.aload_n 3, 1) := by decide +kernel
theorem dX7_at_42 : decode cX7_at 42 = .ok (.iload_n 2, 1) := by decide +kernel
theorem dX7_at_43 : decode cX7_at 43 = .ok (.invokevirtual 110, 3) := by decide +kernel
theorem dX7_at_46 : decode cX7_at 46 = .ok (.invokevirtual 117, 3) := by decide +kernel
theorem dX7_at_49 : decode cX7_at 49 = .ok (.ireturn, 1) := by decide +kernel
theorem dX7_text_0 : decode cX7_text 0 = .ok (.aload_n 0, 1) := by decide +kernel
theorem dX7_text_1 : decode cX7_text 1 = .ok (.iload_n 1, 1) := by decide +kernel
theorem dX7_text_2 : decode cX7_text 2 = .ok (.invokevirtual 142, 3) := by decide +kernel
theorem dX7_text_5 : decode cX7_text 5 = .ok (.astore_n 3, 1) := by decide +kernel
theorem dX7_text_6 : decode cX7_text 6 = .ok (.aload_n 3, 1) := by decide +kernel
theorem dX7_text_7 : decode cX7_text 7 = .ok (.ifnull 9, 3) := by decide +kernel
theorem dX7_text_10 : decode cX7_text 10 = .ok (.iload_n 2, 1) := by decide +kernel
theorem dX7_text_11 : decode cX7_text 11 = .ok (.bipush 80, 2) := by decide +kernel
theorem dX7_text_13 : decode cX7_text 13 = .ok (.if_icmp .le 5, 3) := by decide +kernel
theorem dX7_text_16 : decode cX7_text 16 = .ok (.iconst (-1), 1) := by decide +kernel
theorem dX7_text_17 : decode cX7_text 17 = .ok (.ireturn, 1) := by decide +kernel
theorem dX7_text_18 : decode cX7_text 18 = .ok (.iload_n 2, 1) := by decide +kernel
theorem dX7_text_19 : decode cX7_text 19 = .ok (.ifCond .ge 9, 3) := by decide +kernel
theorem dX7_text_22 : decode cX7_text 22 = .ok (.aload_n 0, 1) := by decide +kernel
theorem dX7_text_23 : decode cX7_text 23 = .ok (.iconst 5, 1) := by decide +kernel
theorem dX7_text_24 : decode cX7_text 24 = .ok (.invokevirtual 94, 3) := by decide +kernel
theorem dX7_text_27 : decode cX7_text 27 = .ok (.ireturn, 1) := by decide +kernel
theorem dX7_text_28 : decode cX7_text 28 = .ok (.aload_n 3, 1) := by decide +kernel
theorem dX7_text_29 : decode cX7_text 29 = .ok (.iload_n 2, 1) := by decide +kernel
theorem dX7_text_30 : decode cX7_text 30 = .ok (.invokevirtual 146, 3) := by decide +kernel
theorem dX7_text_33 : decode cX7_text 33 = .ok (.iload_n 2, 1) := by decide +kernel
theorem dX7_text_34 : decode cX7_text 34 = .ok (.ireturn, 1) := by decide +kernel
theorem dX7_put_0 : decode cX7_put 0 = .ok (.aload_n 0, 1) := by decide +kernel
theorem dX7_put_1 : decode cX7_put 1 = .ok (.iload_n 1, 1) := by decide +kernel
theorem dX7_put_2 : decode cX7_put 2 = .ok (.invokevirtual 142, 3) := by decide +kernel
theorem dX7_put_5 : decode cX7_put 5 = .ok (.astore 4, 2) := by decide +kernel
theorem dX7_put_7 : decode cX7_put 7 = .ok (.aload 4, 2) := by decide +kernel
theorem dX7_put_9 : decode cX7_put 9 = .ok (.ifnonnull 5, 3) := by decide +kernel
theorem dX7_put_12 : decode cX7_put 12 = .ok (.iconst (-1), 1) := by decide +kernel
theorem dX7_put_13 : decode cX7_put 13 = .ok (.ireturn, 1) := by decide +kernel
theorem dX7_put_14 : decode cX7_put 14 = .ok (.aload 4, 2) := by decide +kernel
theorem dX7_put_16 : decode cX7_put 16 = .ok (.invokevirtual 147, 3) := by decide +kernel
theorem dX7_put_19 : decode cX7_put 19 = .ok (.ifCond .ne 9, 3) := by decide +kernel
theorem dX7_put_22 : decode cX7_put 22 = .ok (.aload_n 0, 1) := by decide +kernel
theorem dX7_put_23 : decode cX7_put 23 = .ok (.iconst 1, 1) := by decide +kernel
theorem dX7_put_24 : decode cX7_put 24 = .ok (.invokevirtual 94, 3) := by decide +kernel
theorem dX7_put_27 : decode cX7_put 27 = .ok (.ireturn, 1) := by decide +kernel
theorem dX7_put_28 : decode cX7_put 28 = .ok (.aload 4, 2) := by decide +kernel
theorem dX7_put_30 : decode cX7_put 30 = .ok (.iload_n 2, 1) := by decide +kernel
theorem dX7_put_31 : decode cX7_put 31 = .ok (.invokevirtual 148, 3) := by decide +kernel
theorem dX7_put_34 : decode cX7_put 34 = .ok (.ifCond .ne 9, 3) := by decide +kernel
theorem dX7_put_37 : decode cX7_put 37 = .ok (.aload_n 0, 1) := by decide +kernel
theorem dX7_put_38 : decode cX7_put 38 = .ok (.iconst 2, 1) := by decide +kernel
theorem dX7_put_39 : decode cX7_put 39 = .ok (.invokevirtual 94, 3) := by decide +kernel
theorem dX7_put_42 : decode cX7_put 42 = .ok (.ireturn, 1) := by decide +kernel
theorem dX7_put_43 : decode cX7_put 43 = .ok (.aload 4, 2) := by decide +kernel
theorem dX7_put_45 : decode cX7_put 45 = .ok (.iload_n 2, 1) := by decide +kernel
theorem dX7_put_46 : decode cX7_put 46 = .ok (.invokevirtual 149, 3) := by decide +kernel
theorem dX7_put_49 : decode cX7_put 49 = .ok (.istore 5, 2) := by decide +kernel
theorem dX7_put_51 : decode cX7_put 51 = .ok (.aload 4, 2) := by decide +kernel
theorem dX7_put_53 : decode cX7_put 53 = .ok (.iload_n 2, 1) := by decide +kernel
theorem dX7_put_54 : decode cX7_put 54 = .ok (.iload_n 3, 1) := by decide +kernel
theorem dX7_put_55 : decode cX7_put 55 = .ok (.i2b, 1) := by decide +kernel
theorem dX7_put_56 : decode cX7_put 56 = .ok (.invokevirtual 150, 3) := by decide +kernel
theorem dX7_put_59 : decode cX7_put 59 = .ok (.iload 5, 2) := by decide +kernel
theorem dX7_put_61 : decode cX7_put 61 = .ok (.sipush 1000, 3) := by decide +kernel
theorem dX7_put_64 : decode cX7_put 64 = .ok (.iadd, 1) := by decide +kernel
theorem dX7_put_65 : decode cX7_put 65 = .ok (.ireturn, 1) := by decide +kernel
theorem dX7_wrongSlice_0 : decode cX7_wrongSlice 0 = .ok (.aload_n 0, 1) := by decide +kernel
theorem dX7_wrongSlice_1 : decode cX7_wrongSlice 1 = .ok (.invokevirtual 102, 3) := by decide +kernel
theorem dX7_wrongSlice_4 : decode cX7_wrongSlice 4 = .ok (.ifCond .ne 5, 3) := by decide +kernel
theorem dX7_wrongSlice_7 : decode cX7_wrongSlice 7 = .ok (.iconst 1, 1) := by decide +kernel
theorem dX7_wrongSlice_8 : decode cX7_wrongSlice 8 = .ok (.ireturn, 1) := by decide +kernel
theorem dX7_wrongSlice_9 : decode cX7_wrongSlice 9 = .ok (.aload_n 0, 1) := by decide +kernel
theorem dX7_wrongSlice_10 : decode cX7_wrongSlice 10 = .ok (.getfield 121, 3) := by decide +kernel
theorem dX7_wrongSlice_13 : decode cX7_wrongSlice 13 = .ok (.iconst 3, 1) := by decide +kernel
theorem dX7_wrongSlice_14 : decode cX7_wrongSlice 14 = .ok (.bipush 20, 2) := by decide +kernel
theorem dX7_wrongSlice_16 : decode cX7_wrongSlice 16 = .ok (.invokestatic 180, 3) := by decide +kernel
theorem dX7_wrongSlice_19 : decode cX7_wrongSlice 19 = .ok (.ifCond .ne 5, 3) := by decide +kernel
theorem dX7_wrongSlice_22 : decode cX7_wrongSlice 22 = .ok (.iconst 5, 1) := by decide +kernel
theorem dX7_wrongSlice_23 : decode cX7_wrongSlice 23 = .ok (.ireturn, 1) := by decide +kernel
theorem dX7_wrongSlice_24 : decode cX7_wrongSlice 24 = .ok (.iconst 0, 1) := by decide +kernel
theorem dX7_wrongSlice_25 : decode cX7_wrongSlice 25 = .ok (.istore_n 1, 1) := by decide +kernel
theorem dX7_wrongSlice_26 : decode cX7_wrongSlice 26 = .ok (.iload_n 1, 1) := by decide +kernel
theorem dX7_wrongSlice_27 : decode cX7_wrongSlice 27 = .ok (.aload_n 0, 1) := by decide +kernel
theorem dX7_wrongSlice_28 : decode cX7_wrongSlice 28 = .ok (.getfield 121, 3) := by decide +kernel
theorem dX7_wrongSlice_31 : decode cX7_wrongSlice 31 = .ok (.if_icmp .ge 24, 3) := by decide +kernel
theorem dX7_wrongSlice_34 : decode cX7_wrongSlice 34 = .ok (.aload_n 0, 1) := by decide +kernel
theorem dX7_wrongSlice_35 : decode cX7_wrongSlice 35 = .ok (.iload_n 1, 1) := by decide +kernel
theorem dX7_wrongSlice_36 : decode cX7_wrongSlice 36 = .ok (.invokevirtual 110, 3) := by decide +kernel
theorem dX7_wrongSlice_39 : decode cX7_wrongSlice 39 = .ok (.iconst 0, 1) := by decide +kernel
theorem dX7_wrongSlice_40 : decode cX7_wrongSlice 40 = .ok (.iconst 2, 1) := by decide +kernel
theorem dX7_wrongSlice_41 : decode cX7_wrongSlice 41 = .ok (.invokestatic 180, 3) := by decide +kernel
theorem dX7_wrongSlice_44 : decode cX7_wrongSlice 44 = .ok (.ifCond .ne 5, 3) := by decide +kernel
theorem dX7_wrongSlice_47 : decode cX7_wrongSlice 47 = .ok (.iconst 3, 1) := by decide +kernel
theorem dX7_wrongSlice_48 : decode cX7_wrongSlice 48 = .ok (.ireturn, 1) := by decide +kernel
theorem dX7_wrongSlice_49 : decode cX7_wrongSlice 49 = .ok (.iinc 1 1, 3) := by decide +kernel
theorem dX7_wrongSlice_52 : decode cX7_wrongSlice 52 = .ok (.goto (-26), 3) := by decide +kernel
theorem dX7_wrongSlice_55 : decode cX7_wrongSlice 55 = .ok (.iconst 0, 1) := by decide +kernel
theorem dX7_wrongSlice_56 : decode cX7_wrongSlice 56 = .ok (.ireturn, 1) := by decide +kernel
theorem dX7_skinsOf_0 : decode cX7_skinsOf 0 = .ok (.iconst 0, 1) := by decide +kernel
theorem dX7_skinsOf_1 : decode cX7_skinsOf 1 = .ok (.istore_n 2, 1) := by decide +kernel
theorem dX7_skinsOf_2 : decode cX7_skinsOf 2 = .ok (.iconst 0, 1) := by decide +kernel
theorem dX7_skinsOf_3 : decode cX7_skinsOf 3 = .ok (.istore_n 3, 1) := by decide +kernel
theorem dX7_skinsOf_4 : decode cX7_skinsOf 4 = .ok (.aload_n 0, 1) := by decide +kernel
theorem dX7_skinsOf_5 : decode cX7_skinsOf 5 = .ok (.getfield 36, 3) := by decide +kernel
theorem dX7_skinsOf_8 : decode cX7_skinsOf 8 = .ok (.getfield 210, 3) := by decide +kernel
theorem dX7_skinsOf_11 : decode cX7_skinsOf 11 = .ok (.ifCond .eq 37, 3) := by decide +kernel
theorem dX7_skinsOf_14 : decode cX7_skinsOf 14 = .ok (.iload_n 3, 1) := by decide +kernel
theorem dX7_skinsOf_15 : decode cX7_skinsOf 15 = .ok (.iconst 2, 1) := by decide +kernel
theorem dX7_skinsOf_16 : decode cX7_skinsOf 16 = .ok (.if_icmp .ge 32, 3) := by decide +kernel
theorem dX7_skinsOf_19 : decode cX7_skinsOf 19 = .ok (.iload_n 2, 1) := by decide +kernel
theorem dX7_skinsOf_20 : decode cX7_skinsOf 20 = .ok (.aload_n 0, 1) := by decide +kernel
theorem dX7_skinsOf_21 : decode cX7_skinsOf 21 = .ok (.getfield 36, 3) := by decide +kernel
theorem dX7_skinsOf_24 : decode cX7_skinsOf 24 = .ok (.iload_n 3, 1) := by decide +kernel
theorem dX7_skinsOf_25 : decode cX7_skinsOf 25 = .ok (.invokevirtual 227, 3) := by decide +kernel
theorem dX7_skinsOf_28 : decode cX7_skinsOf 28 = .ok (.iload_n 1, 1) := by decide +kernel
theorem dX7_skinsOf_29 : decode cX7_skinsOf 29 = .ok (.invokestatic 230, 3) := by decide +kernel
theorem dX7_skinsOf_32 : decode cX7_skinsOf 32 = .ok (.ifCond .eq 7, 3) := by decide +kernel
theorem dX7_skinsOf_35 : decode cX7_skinsOf 35 = .ok (.iconst 1, 1) := by decide +kernel
theorem dX7_skinsOf_36 : decode cX7_skinsOf 36 = .ok (.goto 4, 3) := by decide +kernel
theorem dX7_skinsOf_39 : decode cX7_skinsOf 39 = .ok (.iconst 0, 1) := by decide +kernel
theorem dX7_skinsOf_40 : decode cX7_skinsOf 40 = .ok (.iadd, 1) := by decide +kernel
theorem dX7_skinsOf_41 : decode cX7_skinsOf 41 = .ok (.istore_n 2, 1) := by decide +kernel
theorem dX7_skinsOf_42 : decode cX7_skinsOf 42 = .ok (.iinc 3 1, 3) := by decide +kernel
theorem dX7_skinsOf_45 : decode cX7_skinsOf 45 = .ok (.goto (-41), 3) := by decide +kernel
theorem dX7_skinsOf_48 : decode cX7_skinsOf 48 = .ok (.iload_n 2, 1) := by decide +kernel
theorem dX7_skinsOf_49 : decode cX7_skinsOf 49 = .ok (.ireturn, 1) := by decide +kernel
theorem dX7_dish_0 : decode cX7_dish 0 = .ok (.aload_n 0, 1) := by decide +kernel
theorem dX7_dish_1 : decode cX7_dish 1 = .ok (.iload_n 1, 1) := by decide +kernel
theorem dX7_dish_2 : decode cX7_dish 2 = .ok (.invokevirtual 162, 3) := by decide +kernel
theorem dX7_dish_5 : decode cX7_dish 5 = .ok (.astore_n 3, 1) := by decide +kernel
theorem dX7_dish_6 : decode cX7_dish 6 = .ok (.aload_n 0, 1) := by decide +kernel
theorem dX7_dish_7 : decode cX7_dish 7 = .ok (.iload_n 2, 1) := by decide +kernel
theorem dX7_dish_8 : decode cX7_dish 8 = .ok (.invokevirtual 170, 3) := by decide +kernel
theorem dX7_dish_11 : decode cX7_dish 11 = .ok (.astore 4, 2) := by decide +kernel
theorem dX7_dish_13 : decode cX7_dish 13 = .ok (.aload_n 3, 1) := by decide +kernel
theorem dX7_dish_14 : decode cX7_dish 14 = .ok (.ifnull 8, 3) := by decide +kernel
theorem dX7_dish_17 : decode cX7_dish 17 = .ok (.aload 4, 2) := by decide +kernel
theorem dX7_dish_19 : decode cX7_dish 19 = .ok (.ifnonnull 5, 3) := by decide +kernel
theorem dX7_dish_22 : decode cX7_dish 22 = .ok (.iconst (-1), 1) := by decide +kernel
theorem dX7_dish_23 : decode cX7_dish 23 = .ok (.ireturn, 1) := by decide +kernel
theorem dX7_dish_24 : decode cX7_dish 24 = .ok (.aload_n 3, 1) := by decide +kernel
theorem dX7_dish_25 : decode cX7_dish 25 = .ok (.getfield 184, 3) := by decide +kernel
theorem dX7_dish_28 : decode cX7_dish 28 = .ok (.ifCond .eq 11, 3) := by decide +kernel
theorem dX7_dish_31 : decode cX7_dish 31 = .ok (.aload 4, 2) := by decide +kernel
theorem dX7_dish_33 : decode cX7_dish 33 = .ok (.getfield 190, 3) := by decide +kernel
theorem dX7_dish_36 : decode cX7_dish 36 = .ok (.ifCond .ne 9, 3) := by decide +kernel
theorem dX7_dish_39 : decode cX7_dish 39 = .ok (.aload_n 0, 1) := by decide +kernel
theorem dX7_dish_40 : decode cX7_dish 40 = .ok (.iconst 1, 1) := by decide +kernel
theorem dX7_dish_41 : decode cX7_dish 41 = .ok (.invokevirtual 94, 3) := by decide +kernel
theorem dX7_dish_44 : decode cX7_dish 44 = .ok (.ireturn, 1) := by decide +kernel
theorem dX7_dish_45 : decode cX7_dish 45 = .ok (.aload_n 0, 1) := by decide +kernel
theorem dX7_dish_46 : decode cX7_dish 46 = .ok (.getfield 36, 3) := by decide +kernel
theorem dX7_dish_49 : decode cX7_dish 49 = .ok (.aload_n 3, 1) := by decide +kernel
theorem dX7_dish_50 : decode cX7_dish 50 = .ok (.aload_n 3, 1) := by decide +kernel
theorem dX7_dish_51 : decode cX7_dish 51 = .ok (.getfield 198, 3) := by decide +kernel
theorem dX7_dish_54 : decode cX7_dish 54 = .ok (.aload_n 3, 1) := by decide +kernel
theorem dX7_dish_55 : decode cX7_dish 55 = .ok (.getfield 201, 3) := by decide +kernel
theorem dX7_dish_58 : decode cX7_dish 58 = .ok (.invokevirtual 204, 3) := by decide +kernel
theorem dX7_dish_61 : decode cX7_dish 61 = .ok (.aload_n 0, 1) := by decide +kernel
theorem dX7_dish_62 : decode cX7_dish 62 = .ok (.getfield 36, 3) := by decide +kernel
theorem dX7_dish_65 : decode cX7_dish 65 = .ok (.getfield 207, 3) := by decide +kernel
theorem dX7_dish_68 : decode cX7_dish 68 = .ok (.aload 4, 2) := by decide +kernel
theorem dX7_dish_70 : decode cX7_dish 70 = .ok (.invokevirtual 174, 3) := by decide +kernel
theorem dX7_dish_73 : decode cX7_dish 73 = .ok (.aload_n 0, 1) := by decide +kernel
theorem dX7_dish_74 : decode cX7_dish 74 = .ok (.getfield 36, 3) := by decide +kernel
theorem dX7_dish_77 : decode cX7_dish 77 = .ok (.iconst 1, 1) := by decide +kernel
theorem dX7_dish_78 : decode cX7_dish 78 = .ok (.putfield 210, 3) := by decide +kernel
theorem dX7_dish_81 : decode cX7_dish 81 = .ok (.aload 4, 2) := by decide +kernel
theorem dX7_dish_83 : decode cX7_dish 83 = .ok (.getfield 211, 3) := by decide +kernel
theorem dX7_dish_86 : decode cX7_dish 86 = .ok (.ireturn, 1) := by decide +kernel
theorem dX7_depth_0 : decode cX7_depth 0 = .ok (.iload_n 1, 1) := by decide +kernel
theorem dX7_depth_1 : decode cX7_depth 1 = .ok (.iconst 0, 1) := by decide +kernel
theorem dX7_depth_2 : decode cX7_depth 2 = .ok (.bipush 19, 2) := by decide +kernel
theorem dX7_depth_4 : decode cX7_depth 4 = .ok (.invokestatic 180, 3) := by decide +kernel
theorem dX7_depth_7 : decode cX7_depth 7 = .ok (.ifCond .eq 12, 3) := by decide +kernel
theorem dX7_depth_10 : decode cX7_depth 10 = .ok (.iload_n 2, 1) := by decide +kernel
theorem dX7_depth_11 : decode cX7_depth 11 = .ok (.iconst 0, 1) := by decide +kernel
theorem dX7_depth_12 : decode cX7_depth 12 = .ok (.iconst 2, 1) := by decide +kernel
theorem dX7_depth_13 : decode cX7_depth 13 = .ok (.invokestatic 180, 3) := by decide +kernel
theorem dX7_depth_16 : decode cX7_depth 16 = .ok (.ifCond .ne 5, 3) := by decide +kernel
theorem dX7_depth_19 : decode cX7_depth 19 = .ok (.iconst (-1), 1) := by decide +kernel
theorem dX7_depth_20 : decode cX7_depth 20 = .ok (.ireturn, 1) := by decide +kernel
theorem dX7_depth_21 : decode cX7_depth 21 = .ok (.aload_n 0, 1) := by decide +kernel
theorem dX7_depth_22 : decode cX7_depth 22 = .ok (.getfield 36, 3) := by decide +kernel
theorem dX7_depth_25 : decode cX7_depth 25 = .ok (.getfield 210, 3) := by decide +kernel
theorem dX7_depth_28 : decode cX7_depth 28 = .ok (.ifCond .ne 6, 3) := by decide +kernel
theorem dX7_depth_31 : decode cX7_depth 31 = .ok (.bipush (-4), 2) := by decide +kernel
theorem dX7_depth_33 : decode cX7_depth 33 = .ok (.ireturn, 1) := by decide +kernel
theorem dX7_depth_34 : decode cX7_depth 34 = .ok (.iload_n 1, 1) := by decide +kernel
theorem dX7_depth_35 : decode cX7_depth 35 = .ok (.aload_n 0, 1) := by decide +kernel
theorem dX7_depth_36 : decode cX7_depth 36 = .ok (.getfield 36, 3) := by decide +kernel
theorem dX7_depth_39 : decode cX7_depth 39 = .ok (.getfield 220, 3) := by decide +kernel
theorem dX7_depth_42 : decode cX7_depth 42 = .ok (.if_icmp .lt 9, 3) := by decide +kernel
theorem dX7_depth_45 : decode cX7_depth 45 = .ok (.aload_n 0, 1) := by decide +kernel
theorem dX7_depth_46 : decode cX7_depth 46 = .ok (.iconst 2, 1) := by decide +kernel
theorem dX7_depth_47 : decode cX7_depth 47 = .ok (.invokevirtual 94, 3) := by decide +kernel
theorem dX7_depth_50 : decode cX7_depth 50 = .ok (.ireturn, 1) := by decide +kernel
theorem dX7_depth_51 : decode cX7_depth 51 = .ok (.aload_n 0, 1) := by decide +kernel
theorem dX7_depth_52 : decode cX7_depth 52 = .ok (.iconst 1, 1) := by decide +kernel
theorem dX7_depth_53 : decode cX7_depth 53 = .ok (.aload_n 0, 1) := by decide +kernel
theorem dX7_depth_54 : decode cX7_depth 54 = .ok (.getfield 36, 3) := by decide +kernel
theorem dX7_depth_57 : decode cX7_depth 57 = .ok (.iload_n 1, 1) := by decide +kernel
theorem dX7_depth_58 : decode cX7_depth 58 = .ok (.iload_n 2, 1) := by decide +kernel
theorem dX7_depth_59 : decode cX7_depth 59 = .ok (.invokevirtual 221, 3) := by decide +kernel
theorem dX7_depth_62 : decode cX7_depth 62 = .ok (.invokevirtual 117, 3) := by decide +kernel
theorem dX7_depth_65 : decode cX7_depth 65 = .ok (.ireturn, 1) := by decide +kernel
theorem dX7_skin_0 : decode cX7_skin 0 = .ok (.iload_n 1, 1) := by decide +kernel
theorem dX7_skin_1 : decode cX7_skin 1 = .ok (.iconst 0, 1) := by decide +kernel
theorem dX7_skin_2 : decode cX7_skin 2 = .ok (.iconst 1, 1) := by decide +kernel
theorem dX7_skin_3 : decode cX7_skin 3 = .ok (.invokestatic 180, 3) := by decide +kernel
theorem dX7_skin_6 : decode cX7_skin 6 = .ok (.ifCond .eq 12, 3) := by decide +kernel
theorem dX7_skin_9 : decode cX7_skin 9 = .ok (.iload_n 2, 1) := by decide +kernel
theorem dX7_skin_10 : decode cX7_skin 10 = .ok (.iconst 0, 1) := by decide +kernel
theorem dX7_skin_11 : decode cX7_skin 11 = .ok (.iconst 3, 1) := by decide +kernel
theorem dX7_skin_12 : decode cX7_skin 12 = .ok (.invokestatic 180, 3) := by decide +kernel
theorem dX7_skin_15 : decode cX7_skin 15 = .ok (.ifCond .ne 5, 3) := by decide +kernel
theorem dX7_skin_18 : decode cX7_skin 18 = .ok (.iconst (-1), 1) := by decide +kernel
theorem dX7_skin_19 : decode cX7_skin 19 = .ok (.ireturn, 1) := by decide +kernel
theorem dX7_skin_20 : decode cX7_skin 20 = .ok (.aload_n 0, 1) := by decide +kernel
theorem dX7_skin_21 : decode cX7_skin 21 = .ok (.getfield 36, 3) := by decide +kernel
theorem dX7_skin_24 : decode cX7_skin 24 = .ok (.getfield 210, 3) := by decide +kernel
theorem dX7_skin_27 : decode cX7_skin 27 = .ok (.ifCond .ne 6, 3) := by decide +kernel
theorem dX7_skin_30 : decode cX7_skin 30 = .ok (.bipush (-4), 2) := by decide +kernel
theorem dX7_skin_32 : decode cX7_skin 32 = .ok (.ireturn, 1) := by decide +kernel
theorem dX7_skin_33 : decode cX7_skin 33 = .ok (.aload_n 0, 1) := by decide +kernel
theorem dX7_skin_34 : decode cX7_skin 34 = .ok (.iconst 1, 1) := by decide +kernel
theorem dX7_skin_35 : decode cX7_skin 35 = .ok (.aload_n 0, 1) := by decide +kernel
theorem dX7_skin_36 : decode cX7_skin 36 = .ok (.getfield 36, 3) := by decide +kernel
theorem dX7_skin_39 : decode cX7_skin 39 = .ok (.iload_n 1, 1) := by decide +kernel
theorem dX7_skin_40 : decode cX7_skin 40 = .ok (.iload_n 2, 1) := by decide +kernel
theorem dX7_skin_41 : decode cX7_skin 41 = .ok (.invokevirtual 224, 3) := by decide +kernel
theorem dX7_skin_44 : decode cX7_skin 44 = .ok (.invokevirtual 117, 3) := by decide +kernel
theorem dX7_skin_47 : decode cX7_skin 47 = .ok (.ireturn, 1) := by decide +kernel
theorem dX7_just_0 : decode cX7_just 0 = .ok (.iload_n 1, 1) := by decide +kernel
theorem dX7_just_1 : decode cX7_just 1 = .ok (.iload_n 2, 1) := by decide +kernel
theorem dX7_just_2 : decode cX7_just 2 = .ok (.invokestatic 243, 3) := by decide +kernel
theorem dX7_just_5 : decode cX7_just 5 = .ok (.ifCond .ne 5, 3) := by decide +kernel
theorem dX7_just_8 : decode cX7_just 8 = .ok (.iconst (-1), 1) := by decide +kernel
theorem dX7_just_9 : decode cX7_just 9 = .ok (.ireturn, 1) := by decide +kernel
theorem dX7_just_10 : decode cX7_just 10 = .ok (.aload_n 0, 1) := by decide +kernel
theorem dX7_just_11 : decode cX7_just 11 = .ok (.getfield 36, 3) := by decide +kernel
theorem dX7_just_14 : decode cX7_just 14 = .ok (.getfield 210, 3) := by decide +kernel
theorem dX7_just_17 : decode cX7_just 17 = .ok (.ifCond .ne 6, 3) := by decide +kernel
theorem dX7_just_20 : decode cX7_just 20 = .ok (.bipush (-4), 2) := by decide +kernel
theorem dX7_just_22 : decode cX7_just 22 = .ok (.ireturn, 1) := by decide +kernel
theorem dX7_just_23 : decode cX7_just 23 = .ok (.aload_n 0, 1) := by decide +kernel
theorem dX7_just_24 : decode cX7_just 24 = .ok (.aload_n 0, 1) := by decide +kernel
theorem dX7_just_25 : decode cX7_just 25 = .ok (.getfield 36, 3) := by decide +kernel
theorem dX7_just_28 : decode cX7_just 28 = .ok (.iload_n 1, 1) := by decide +kernel
theorem dX7_just_29 : decode cX7_just 29 = .ok (.iload_n 2, 1) := by decide +kernel
theorem dX7_just_30 : decode cX7_just 30 = .ok (.invokevirtual 246, 3) := by decide +kernel
theorem dX7_just_33 : decode cX7_just 33 = .ok (.aload_n 0, 1) := by decide +kernel
theorem dX7_just_34 : decode cX7_just 34 = .ok (.getfield 36, 3) := by decide +kernel
theorem dX7_just_37 : decode cX7_just 37 = .ok (.invokevirtual 249, 3) := by decide +kernel
theorem dX7_just_40 : decode cX7_just 40 = .ok (.invokevirtual 117, 3) := by decide +kernel
theorem dX7_just_43 : decode cX7_just 43 = .ok (.ireturn, 1) := by decide +kernel
theorem dX7_safe_0 : decode cX7_safe 0 = .ok (.aload_n 0, 1) := by decide +kernel
theorem dX7_safe_1 : decode cX7_safe 1 = .ok (.iload_n 1, 1) := by decide +kernel
theorem dX7_safe_2 : decode cX7_safe 2 = .ok (.invokevirtual 162, 3) := by decide +kernel
theorem dX7_safe_5 : decode cX7_safe 5 = .ok (.astore_n 3, 1) := by decide +kernel
theorem dX7_safe_6 : decode cX7_safe 6 = .ok (.aload_n 3, 1) := by decide +kernel
theorem dX7_safe_7 : decode cX7_safe 7 = .ok (.ifnull 10, 3) := by decide +kernel
theorem dX7_safe_10 : decode cX7_safe 10 = .ok (.iload_n 2, 1) := by decide +kernel
theorem dX7_safe_11 : decode cX7_safe 11 = .ok (.invokestatic 340, 3) := by decide +kernel
theorem dX7_safe_14 : decode cX7_safe 14 = .ok (.ifCond .ne 5, 3) := by decide +kernel
theorem dX7_safe_17 : decode cX7_safe 17 = .ok (.iconst (-1), 1) := by decide +kernel
theorem dX7_safe_18 : decode cX7_safe 18 = .ok (.ireturn, 1) := by decide +kernel
theorem dX7_safe_19 : decode cX7_safe 19 = .ok (.aload_n 3, 1) := by decide +kernel
theorem dX7_safe_20 : decode cX7_safe 20 = .ok (.getfield 184, 3) := by decide +kernel
theorem dX7_safe_23 : decode cX7_safe 23 = .ok (.ifCond .ne 9, 3) := by decide +kernel
theorem dX7_safe_26 : decode cX7_safe 26 = .ok (.aload_n 0, 1) := by decide +kernel
theorem dX7_safe_27 : decode cX7_safe 27 = .ok (.iconst 1, 1) := by decide +kernel
theorem dX7_safe_28 : decode cX7_safe 28 = .ok (.invokevirtual 94, 3) := by decide +kernel
theorem dX7_safe_31 : decode cX7_safe 31 = .ok (.ireturn, 1) := by decide +kernel
theorem dX7_safe_32 : decode cX7_safe 32 = .ok (.aload_n 0, 1) := by decide +kernel
theorem dX7_safe_33 : decode cX7_safe 33 = .ok (.getfield 44, 3) := by decide +kernel
theorem dX7_safe_36 : decode cX7_safe 36 = .ok (.aload_n 3, 1) := by decide +kernel
theorem dX7_safe_37 : decode cX7_safe 37 = .ok (.aload_n 3, 1) := by decide +kernel
theorem dX7_safe_38 : decode cX7_safe 38 = .ok (.getfield 198, 3) := by decide +kernel
theorem dX7_safe_41 : decode cX7_safe 41 = .ok (.aload_n 3, 1) := by decide +kernel
theorem dX7_safe_42 : decode cX7_safe 42 = .ok (.getfield 201, 3) := by decide +kernel
theorem dX7_safe_45 : decode cX7_safe 45 = .ok (.invokevirtual 204, 3) := by decide +kernel
theorem dX7_safe_48 : decode cX7_safe 48 = .ok (.iconst 0, 1) := by decide +kernel
theorem dX7_safe_49 : decode cX7_safe 49 = .ok (.istore 4, 2) := by decide +kernel
theorem dX7_safe_51 : decode cX7_safe 51 = .ok (.iconst 1, 1) := by decide +kernel
theorem dX7_safe_52 : decode cX7_safe 52 = .ok (.istore 5, 2) := by decide +kernel
theorem dX7_safe_54 : decode cX7_safe 54 = .ok (.iload 5, 2) := by decide +kernel
theorem dX7_safe_56 : decode cX7_safe 56 = .ok (.sipush 200, 3) := by decide +kernel
theorem dX7_safe_59 : decode cX7_safe 59 = .ok (.if_icmp .gt 63, 3) := by decide +kernel
theorem dX7_safe_62 : decode cX7_safe 62 = .ok (.aload_n 0, 1) := by decide +kernel
theorem dX7_safe_63 : decode cX7_safe 63 = .ok (.getfield 44, 3) := by decide +kernel
theorem dX7_safe_66 : decode cX7_safe 66 = .ok (.iconst 3, 1) := by decide +kernel
theorem dX7_safe_67 : decode cX7_safe 67 = .ok (.iload_n 2, 1) := by decide +kernel
theorem dX7_safe_68 : decode cX7_safe 68 = .ok (.invokevirtual 267, 3) := by decide +kernel
theorem dX7_safe_71 : decode cX7_safe 71 = .ok (.iload 4, 2) := by decide +kernel
theorem dX7_safe_73 : decode cX7_safe 73 = .ok (.aload_n 0, 1) := by decide +kernel
theorem dX7_safe_74 : decode cX7_safe 74 = .ok (.getfield 44, 3) := by decide +kernel
theorem dX7_safe_77 : decode cX7_safe 77 = .ok (.invokevirtual 264, 3) := by decide +kernel
theorem dX7_safe_80 : decode cX7_safe 80 = .ok (.sipush 500, 3) := by decide +kernel
theorem dX7_safe_83 : decode cX7_safe 83 = .ok (.isub, 1) := by decide +kernel
theorem dX7_safe_84 : decode cX7_safe 84 = .ok (.iconst 0, 1) := by decide +kernel
theorem dX7_safe_85 : decode cX7_safe 85 = .ok (.invokestatic 273, 3) := by decide +kernel
theorem dX7_safe_88 : decode cX7_safe 88 = .ok (.bipush 10, 2) := by decide +kernel
theorem dX7_safe_90 : decode cX7_safe 90 = .ok (.idiv, 1) := by decide +kernel
theorem dX7_safe_91 : decode cX7_safe 91 = .ok (.iadd, 1) := by decide +kernel
theorem dX7_safe_92 : decode cX7_safe 92 = .ok (.istore 4, 2) := by decide +kernel
theorem dX7_safe_94 : decode cX7_safe 94 = .ok (.iload 4, 2) := by decide +kernel
theorem dX7_safe_96 : decode cX7_safe 96 = .ok (.sipush 300, 3) := by decide +kernel
theorem dX7_safe_99 : decode cX7_safe 99 = .ok (.if_icmp .lt 17, 3) := by decide +kernel
theorem dX7_safe_102 : decode cX7_safe 102 = .ok (.aload_n 0, 1) := by decide +kernel
theorem dX7_safe_103 : decode cX7_safe 103 = .ok (.iload 5, 2) := by decide +kernel
theorem dX7_safe_105 : decode cX7_safe 105 = .ok (.aload_n 0, 1) := by decide +kernel
theorem dX7_safe_106 : decode cX7_safe 106 = .ok (.getfield 44, 3) := by decide +kernel
theorem dX7_safe_109 : decode cX7_safe 109 = .ok (.invokevirtual 264, 3) := by decide +kernel
theorem dX7_safe_112 : decode cX7_safe 112 = .ok (.invokevirtual 117, 3) := by decide +kernel
theorem dX7_safe_115 : decode cX7_safe 115 = .ok (.ireturn, 1) := by decide +kernel
theorem dX7_safe_116 : decode cX7_safe 116 = .ok (.iinc 5 1, 3) := by decide +kernel
theorem dX7_safe_119 : decode cX7_safe 119 = .ok (.goto (-65), 3) := by decide +kernel
theorem dX7_safe_122 : decode cX7_safe 122 = .ok (.bipush (-9), 2) := by decide +kernel
theorem dX7_safe_124 : decode cX7_safe 124 = .ok (.ireturn, 1) := by decide +kernel
theorem dX7_count_0 : decode cX7_count 0 = .ok (.iload_n 1, 1) := by decide +kernel
theorem dX7_count_1 : decode cX7_count 1 = .ok (.tableswitch 106 0 7 #[47, 52, 57, 79, 85, 91, 96, 101], 47) := by decide +kernel
theorem dX7_count_48 : decode cX7_count 48 = .ok (.aload_n 0, 1) := by decide +kernel
theorem dX7_count_49 : decode cX7_count 49 = .ok (.invokevirtual 359, 3) := by decide +kernel
theorem dX7_count_52 : decode cX7_count 52 = .ok (.ireturn, 1) := by decide +kernel
theorem dX7_count_53 : decode cX7_count 53 = .ok (.aload_n 0, 1) := by decide +kernel
theorem dX7_count_54 : decode cX7_count 54 = .ok (.invokevirtual 362, 3) := by decide +kernel
theorem dX7_count_57 : decode cX7_count 57 = .ok (.ireturn, 1) := by decide +kernel
theorem dX7_count_58 : decode cX7_count 58 = .ok (.aload_n 0, 1) := by decide +kernel
theorem dX7_count_59 : decode cX7_count 59 = .ok (.getfield 36, 3) := by decide +kernel
theorem dX7_count_62 : decode cX7_count 62 = .ok (.getfield 210, 3) := by decide +kernel
theorem dX7_count_65 : decode cX7_count 65 = .ok (.ifCond .eq 13, 3) := by decide +kernel
theorem dX7_count_68 : decode cX7_count 68 = .ok (.aload_n 0, 1) := by decide +kernel
theorem dX7_count_69 : decode cX7_count 69 = .ok (.getfield 36, 3) := by decide +kernel
theorem dX7_count_72 : decode cX7_count 72 = .ok (.getfield 214, 3) := by decide +kernel
theorem dX7_count_75 : decode cX7_count 75 = .ok (.goto 4, 3) := by decide +kernel
theorem dX7_count_78 : decode cX7_count 78 = .ok (.iconst 0, 1) := by decide +kernel
theorem dX7_count_79 : decode cX7_count 79 = .ok (.ireturn, 1) := by decide +kernel
theorem dX7_count_80 : decode cX7_count 80 = .ok (.aload_n 0, 1) := by decide +kernel
theorem dX7_count_81 : decode cX7_count 81 = .ok (.iconst 1, 1) := by decide +kernel
theorem dX7_count_82 : decode cX7_count 82 = .ok (.invokevirtual 365, 3) := by decide +kernel
theorem dX7_count_85 : decode cX7_count 85 = .ok (.ireturn, 1) := by decide +kernel
theorem dX7_count_86 : decode cX7_count 86 = .ok (.aload_n 0, 1) := by decide +kernel
theorem dX7_count_87 : decode cX7_count 87 = .ok (.iconst 3, 1) := by decide +kernel
theorem dX7_count_88 : decode cX7_count 88 = .ok (.invokevirtual 365, 3) := by decide +kernel
theorem dX7_count_91 : decode cX7_count 91 = .ok (.ireturn, 1) := by decide +kernel
theorem dX7_count_92 : decode cX7_count 92 = .ok (.aload_n 0, 1) := by decide +kernel
theorem dX7_count_93 : decode cX7_count 93 = .ok (.invokevirtual 368, 3) := by decide +kernel
theorem dX7_count_96 : decode cX7_count 96 = .ok (.ireturn, 1) := by decide +kernel
theorem dX7_count_97 : decode cX7_count 97 = .ok (.aload_n 0, 1) := by decide +kernel
theorem dX7_count_98 : decode cX7_count 98 = .ok (.invokevirtual 371, 3) := by decide +kernel
theorem dX7_count_101 : decode cX7_count 101 = .ok (.ireturn, 1) := by decide +kernel
theorem dX7_count_102 : decode cX7_count 102 = .ok (.aload_n 0, 1) := by decide +kernel
theorem dX7_count_103 : decode cX7_count 103 = .ok (.invokevirtual 374, 3) := by decide +kernel
theorem dX7_count_106 : decode cX7_count 106 = .ok (.ireturn, 1) := by decide +kernel
theorem dX7_count_107 : decode cX7_count 107 = .ok (.iconst (-1), 1) := by decide +kernel
theorem dX7_count_108 : decode cX7_count 108 = .ok (.ireturn, 1) := by decide +kernel
theorem dX7_go_0 : decode cX7_go 0 = .ok (.iload_n 1, 1) := by decide +kernel
theorem dX7_go_1 : decode cX7_go 1 = .ok (.iconst 0, 1) := by decide +kernel
theorem dX7_go_2 : decode cX7_go 2 = .ok (.sipush 200, 3) := by decide +kernel
theorem dX7_go_5 : decode cX7_go 5 = .ok (.invokestatic 180, 3) := by decide +kernel
theorem dX7_go_8 : decode cX7_go 8 = .ok (.ifCond .ne 5, 3) := by decide +kernel
theorem dX7_go_11 : decode cX7_go 11 = .ok (.iconst (-1), 1) := by decide +kernel
theorem dX7_go_12 : decode cX7_go 12 = .ok (.ireturn, 1) := by decide +kernel
theorem dX7_go_13 : decode cX7_go 13 = .ok (.aload_n 0, 1) := by decide +kernel
theorem dX7_go_14 : decode cX7_go 14 = .ok (.getfield 36, 3) := by decide +kernel
theorem dX7_go_17 : decode cX7_go 17 = .ok (.getfield 210, 3) := by decide +kernel
theorem dX7_go_20 : decode cX7_go 20 = .ok (.ifCond .ne 6, 3) := by decide +kernel
theorem dX7_go_23 : decode cX7_go 23 = .ok (.bipush (-4), 2) := by decide +kernel
theorem dX7_go_25 : decode cX7_go 25 = .ok (.ireturn, 1) := by decide +kernel
theorem dX7_go_26 : decode cX7_go 26 = .ok (.aload_n 0, 1) := by decide +kernel
theorem dX7_go_27 : decode cX7_go 27 = .ok (.getfield 36, 3) := by decide +kernel
theorem dX7_go_30 : decode cX7_go 30 = .ok (.getfield 214, 3) := by decide +kernel
theorem dX7_go_33 : decode cX7_go 33 = .ok (.iload_n 1, 1) := by decide +kernel
theorem dX7_go_34 : decode cX7_go 34 = .ok (.iadd, 1) := by decide +kernel
theorem dX7_go_35 : decode cX7_go 35 = .ok (.sipush 300, 3) := by decide +kernel
theorem dX7_go_38 : decode cX7_go 38 = .ok (.if_icmp .le 6, 3) := by decide +kernel
theorem dX7_go_41 : decode cX7_go 41 = .ok (.bipush (-6), 2) := by decide +kernel
theorem dX7_go_43 : decode cX7_go 43 = .ok (.ireturn, 1) := by decide +kernel
theorem dX7_go_44 : decode cX7_go 44 = .ok (.aload_n 0, 1) := by decide +kernel
theorem dX7_go_45 : decode cX7_go 45 = .ok (.getfield 36, 3) := by decide +kernel
theorem dX7_go_48 : decode cX7_go 48 = .ok (.iload_n 1, 1) := by decide +kernel
theorem dX7_go_49 : decode cX7_go 49 = .ok (.invokevirtual 217, 3) := by decide +kernel
theorem dX7_go_52 : decode cX7_go 52 = .ok (.aload_n 0, 1) := by decide +kernel
theorem dX7_go_53 : decode cX7_go 53 = .ok (.getfield 36, 3) := by decide +kernel
theorem dX7_go_56 : decode cX7_go 56 = .ok (.getfield 214, 3) := by decide +kernel
theorem dX7_go_59 : decode cX7_go 59 = .ok (.ireturn, 1) := by decide +kernel
theorem dX7_slice_0 : decode cX7_slice 0 = .ok (.aload_n 0, 1) := by decide +kernel
theorem dX7_slice_1 : decode cX7_slice 1 = .ok (.iload_n 1, 1) := by decide +kernel
theorem dX7_slice_2 : decode cX7_slice 2 = .ok (.invokevirtual 90, 3) := by decide +kernel
theorem dX7_slice_5 : decode cX7_slice 5 = .ok (.astore_n 2, 1) := by decide +kernel
theorem dX7_slice_6 : decode cX7_slice 6 = .ok (.aload_n 2, 1) := by decide +kernel
theorem dX7_slice_7 : decode cX7_slice 7 = .ok (.ifnonnull 5, 3) := by decide +kernel
theorem dX7_slice_10 : decode cX7_slice 10 = .ok (.iconst (-1), 1) := by decide +kernel
theorem dX7_slice_11 : decode cX7_slice 11 = .ok (.ireturn, 1) := by decide +kernel
theorem dX7_slice_12 : decode cX7_slice 12 = .ok (.aload_n 0, 1) := by decide +kernel
theorem dX7_slice_13 : decode cX7_slice 13 = .ok (.getfield 36, 3) := by decide +kernel
theorem dX7_slice_16 : decode cX7_slice 16 = .ok (.getfield 210, 3) := by decide +kernel
theorem dX7_slice_19 : decode cX7_slice 19 = .ok (.ifCond .ne 6, 3) := by decide +kernel
theorem dX7_slice_22 : decode cX7_slice 22 = .ok (.bipush (-4), 2) := by decide +kernel
theorem dX7_slice_24 : decode cX7_slice 24 = .ok (.ireturn, 1) := by decide +kernel
theorem dX7_slice_25 : decode cX7_slice 25 = .ok (.aload_n 2, 1) := by decide +kernel
theorem dX7_slice_26 : decode cX7_slice 26 = .ok (.aload_n 0, 1) := by decide +kernel
theorem dX7_slice_27 : decode cX7_slice 27 = .ok (.getfield 36, 3) := by decide +kernel
theorem dX7_slice_30 : decode cX7_slice 30 = .ok (.getfield 220, 3) := by decide +kernel
theorem dX7_slice_33 : decode cX7_slice 33 = .ok (.invokevirtual 98, 3) := by decide +kernel
theorem dX7_slice_36 : decode cX7_slice 36 = .ok (.iconst 0, 1) := by decide +kernel
theorem dX7_slice_37 : decode cX7_slice 37 = .ok (.istore_n 3, 1) := by decide +kernel
theorem dX7_slice_38 : decode cX7_slice 38 = .ok (.iload_n 3, 1) := by decide +kernel
theorem dX7_slice_39 : decode cX7_slice 39 = .ok (.aload_n 0, 1) := by decide +kernel
theorem dX7_slice_40 : decode cX7_slice 40 = .ok (.getfield 36, 3) := by decide +kernel
theorem dX7_slice_43 : decode cX7_slice 43 = .ok (.getfield 220, 3) := by decide +kernel
theorem dX7_slice_46 : decode cX7_slice 46 = .ok (.if_icmp .ge 22, 3) := by decide +kernel
theorem dX7_slice_49 : decode cX7_slice 49 = .ok (.aload_n 2, 1) := by decide +kernel
theorem dX7_slice_50 : decode cX7_slice 50 = .ok (.iload_n 3, 1) := by decide +kernel
theorem dX7_slice_51 : decode cX7_slice 51 = .ok (.aload_n 0, 1) := by decide +kernel
theorem dX7_slice_52 : decode cX7_slice 52 = .ok (.getfield 36, 3) := by decide +kernel
theorem dX7_slice_55 : decode cX7_slice 55 = .ok (.iload_n 3, 1) := by decide +kernel
theorem dX7_slice_56 : decode cX7_slice 56 = .ok (.invokevirtual 252, 3) := by decide +kernel
theorem dX7_slice_59 : decode cX7_slice 59 = .ok (.invokevirtual 113, 3) := by decide +kernel
theorem dX7_slice_62 : decode cX7_slice 62 = .ok (.iinc 3 1, 3) := by decide +kernel
theorem dX7_slice_65 : decode cX7_slice 65 = .ok (.goto (-27), 3) := by decide +kernel
theorem dX7_slice_68 : decode cX7_slice 68 = .ok (.aload_n 0, 1) := by decide +kernel
theorem dX7_slice_69 : decode cX7_slice 69 = .ok (.getfield 36, 3) := by decide +kernel
theorem dX7_slice_72 : decode cX7_slice 72 = .ok (.invokevirtual 255, 3) := by decide +kernel
theorem dX7_slice_75 : decode cX7_slice 75 = .ok (.ireturn, 1) := by decide +kernel
theorem dX7_cut_0 : decode cX7_cut 0 = .ok (.iload_n 1, 1) := by decide +kernel
theorem dX7_cut_1 : decode cX7_cut 1 = .ok (.iconst 0, 1) := by decide +kernel
theorem dX7_cut_2 : decode cX7_cut 2 = .ok (.bipush 60, 2) := by decide +kernel
theorem dX7_cut_4 : decode cX7_cut 4 = .ok (.invokestatic 180, 3) := by decide +kernel
theorem dX7_cut_7 : decode cX7_cut 7 = .ok (.ifCond .ne 5, 3) := by decide +kernel
theorem dX7_cut_10 : decode cX7_cut 10 = .ok (.iconst (-1), 1) := by decide +kernel
theorem dX7_cut_11 : decode cX7_cut 11 = .ok (.ireturn, 1) := by decide +kernel
theorem dX7_cut_12 : decode cX7_cut 12 = .ok (.aload_n 0, 1) := by decide +kernel
theorem dX7_cut_13 : decode cX7_cut 13 = .ok (.getfield 36, 3) := by decide +kernel
theorem dX7_cut_16 : decode cX7_cut 16 = .ok (.getfield 210, 3) := by decide +kernel
theorem dX7_cut_19 : decode cX7_cut 19 = .ok (.ifCond .ne 6, 3) := by decide +kernel
theorem dX7_cut_22 : decode cX7_cut 22 = .ok (.bipush (-4), 2) := by decide +kernel
theorem dX7_cut_24 : decode cX7_cut 24 = .ok (.ireturn, 1) := by decide +kernel
theorem dX7_cut_25 : decode cX7_cut 25 = .ok (.aload_n 0, 1) := by decide +kernel
theorem dX7_cut_26 : decode cX7_cut 26 = .ok (.getfield 44, 3) := by decide +kernel
theorem dX7_cut_29 : decode cX7_cut 29 = .ok (.aload_n 0, 1) := by decide +kernel
theorem dX7_cut_30 : decode cX7_cut 30 = .ok (.getfield 36, 3) := by decide +kernel
theorem dX7_cut_33 : decode cX7_cut 33 = .ok (.invokevirtual 240, 3) := by decide +kernel
theorem dX7_cut_36 : decode cX7_cut 36 = .ok (.aload_n 0, 1) := by decide +kernel
theorem dX7_cut_37 : decode cX7_cut 37 = .ok (.getfield 44, 3) := by decide +kernel
theorem dX7_cut_40 : decode cX7_cut 40 = .ok (.iload_n 1, 1) := by decide +kernel
theorem dX7_cut_41 : decode cX7_cut 41 = .ok (.invokevirtual 258, 3) := by decide +kernel
theorem dX7_cut_44 : decode cX7_cut 44 = .ok (.aload_n 0, 1) := by decide +kernel
theorem dX7_cut_45 : decode cX7_cut 45 = .ok (.aload_n 0, 1) := by decide +kernel
theorem dX7_cut_46 : decode cX7_cut 46 = .ok (.getfield 36, 3) := by decide +kernel
theorem dX7_cut_49 : decode cX7_cut 49 = .ok (.invokevirtual 261, 3) := by decide +kernel
theorem dX7_cut_52 : decode cX7_cut 52 = .ok (.aload_n 0, 1) := by decide +kernel
theorem dX7_cut_53 : decode cX7_cut 53 = .ok (.getfield 44, 3) := by decide +kernel
theorem dX7_cut_56 : decode cX7_cut 56 = .ok (.invokevirtual 261, 3) := by decide +kernel
theorem dX7_cut_59 : decode cX7_cut 59 = .ok (.invokevirtual 117, 3) := by decide +kernel
theorem dX7_cut_62 : decode cX7_cut 62 = .ok (.ireturn, 1) := by decide +kernel
theorem dX7_rise_0 : decode cX7_rise 0 = .ok (.aload_n 0, 1) := by decide +kernel
theorem dX7_rise_1 : decode cX7_rise 1 = .ok (.getfield 36, 3) := by decide +kernel
theorem dX7_rise_4 : decode cX7_rise 4 = .ok (.getfield 210, 3) := by decide +kernel
theorem dX7_rise_7 : decode cX7_rise 7 = .ok (.ifCond .ne 6, 3) := by decide +kernel
theorem dX7_rise_10 : decode cX7_rise 10 = .ok (.bipush (-4), 2) := by decide +kernel
theorem dX7_rise_12 : decode cX7_rise 12 = .ok (.ireturn, 1) := by decide +kernel
theorem dX7_rise_13 : decode cX7_rise 13 = .ok (.aload_n 0, 1) := by decide +kernel
theorem dX7_rise_14 : decode cX7_rise 14 = .ok (.getfield 44, 3) := by decide +kernel
theorem dX7_rise_17 : decode cX7_rise 17 = .ok (.aload_n 0, 1) := by decide +kernel
theorem dX7_rise_18 : decode cX7_rise 18 = .ok (.getfield 36, 3) := by decide +kernel
theorem dX7_rise_21 : decode cX7_rise 21 = .ok (.invokevirtual 240, 3) := by decide +kernel
theorem dX7_rise_24 : decode cX7_rise 24 = .ok (.aload_n 0, 1) := by decide +kernel
theorem dX7_rise_25 : decode cX7_rise 25 = .ok (.getfield 44, 3) := by decide +kernel
theorem dX7_rise_28 : decode cX7_rise 28 = .ok (.invokevirtual 264, 3) := by decide +kernel
theorem dX7_rise_31 : decode cX7_rise 31 = .ok (.istore_n 1, 1) := by decide +kernel
theorem dX7_rise_32 : decode cX7_rise 32 = .ok (.iload_n 1, 1) := by decide +kernel
theorem dX7_rise_33 : decode cX7_rise 33 = .ok (.istore_n 2, 1) := by decide +kernel
theorem dX7_rise_34 : decode cX7_rise 34 = .ok (.iconst 0, 1) := by decide +kernel
theorem dX7_rise_35 : decode cX7_rise 35 = .ok (.istore_n 3, 1) := by decide +kernel
theorem dX7_rise_36 : decode cX7_rise 36 = .ok (.iconst 1, 1) := by decide +kernel
theorem dX7_rise_37 : decode cX7_rise 37 = .ok (.istore 4, 2) := by decide +kernel
theorem dX7_rise_39 : decode cX7_rise 39 = .ok (.iload 4, 2) := by decide +kernel
theorem dX7_rise_41 : decode cX7_rise 41 = .ok (.bipush 60, 2) := by decide +kernel
theorem dX7_rise_43 : decode cX7_rise 43 = .ok (.if_icmp .gt 40, 3) := by decide +kernel
theorem dX7_rise_46 : decode cX7_rise 46 = .ok (.aload_n 0, 1) := by decide +kernel
theorem dX7_rise_47 : decode cX7_rise 47 = .ok (.getfield 44, 3) := by decide +kernel
theorem dX7_rise_50 : decode cX7_rise 50 = .ok (.iconst 4, 1) := by decide +kernel
theorem dX7_rise_51 : decode cX7_rise 51 = .ok (.iconst 0, 1) := by decide +kernel
theorem dX7_rise_52 : decode cX7_rise 52 = .ok (.invokevirtual 267, 3) := by decide +kernel
theorem dX7_rise_55 : decode cX7_rise 55 = .ok (.aload_n 0, 1) := by decide +kernel
theorem dX7_rise_56 : decode cX7_rise 56 = .ok (.getfield 44, 3) := by decide +kernel
theorem dX7_rise_59 : decode cX7_rise 59 = .ok (.invokevirtual 264, 3) := by decide +kernel
theorem dX7_rise_62 : decode cX7_rise 62 = .ok (.iload_n 2, 1) := by decide +kernel
theorem dX7_rise_63 : decode cX7_rise 63 = .ok (.if_icmp .le 14, 3) := by decide +kernel
theorem dX7_rise_66 : decode cX7_rise 66 = .ok (.aload_n 0, 1) := by decide +kernel
theorem dX7_rise_67 : decode cX7_rise 67 = .ok (.getfield 44, 3) := by decide +kernel
theorem dX7_rise_70 : decode cX7_rise 70 = .ok (.invokevirtual 264, 3) := by decide +kernel
theorem dX7_rise_73 : decode cX7_rise 73 = .ok (.istore_n 2, 1) := by decide +kernel
theorem dX7_rise_74 : decode cX7_rise 74 = .ok (.iload 4, 2) := by decide +kernel
theorem dX7_rise_76 : decode cX7_rise 76 = .ok (.istore_n 3, 1) := by decide +kernel
theorem dX7_rise_77 : decode cX7_rise 77 = .ok (.iinc 4 1, 3) := by decide +kernel
theorem dX7_rise_80 : decode cX7_rise 80 = .ok (.goto (-41), 3) := by decide +kernel
theorem dX7_rise_83 : decode cX7_rise 83 = .ok (.aload_n 0, 1) := by decide +kernel
theorem dX7_rise_84 : decode cX7_rise 84 = .ok (.iload_n 2, 1) := by decide +kernel
theorem dX7_rise_85 : decode cX7_rise 85 = .ok (.iload_n 1, 1) := by decide +kernel
theorem dX7_rise_86 : decode cX7_rise 86 = .ok (.isub, 1) := by decide +kernel
theorem dX7_rise_87 : decode cX7_rise 87 = .ok (.iload_n 3, 1) := by decide +kernel
theorem dX7_rise_88 : decode cX7_rise 88 = .ok (.invokevirtual 117, 3) := by decide +kernel
theorem dX7_rise_91 : decode cX7_rise 91 = .ok (.ireturn, 1) := by decide +kernel
theorem dX7_most_0 : decode cX7_most 0 = .ok (.aload_n 0, 1) := by decide +kernel
theorem dX7_most_1 : decode cX7_most 1 = .ok (.iload_n 1, 1) := by decide +kernel
theorem dX7_most_2 : decode cX7_most 2 = .ok (.invokevirtual 162, 3) := by decide +kernel
theorem dX7_most_5 : decode cX7_most 5 = .ok (.astore 5, 2) := by decide +kernel
theorem dX7_most_7 : decode cX7_most 7 = .ok (.aload 5, 2) := by decide +kernel
theorem dX7_most_9 : decode cX7_most 9 = .ok (.ifnull 22, 3) := by decide +kernel
theorem dX7_most_12 : decode cX7_most 12 = .ok (.iload_n 2, 1) := by decide +kernel
theorem dX7_most_13 : decode cX7_most 13 = .ok (.iload_n 3, 1) := by decide +kernel
theorem dX7_most_14 : decode cX7_most 14 = .ok (.invokestatic 243, 3) := by decide +kernel
theorem dX7_most_17 : decode cX7_most 17 = .ok (.ifCond .eq 14, 3) := by decide +kernel
theorem dX7_most_20 : decode cX7_most 20 = .ok (.iload 4, 2) := by decide +kernel
theorem dX7_most_22 : decode cX7_most 22 = .ok (.iconst 0, 1) := by decide +kernel
theorem dX7_most_23 : decode cX7_most 23 = .ok (.bipush 99, 2) := by decide +kernel
theorem dX7_most_25 : decode cX7_most 25 = .ok (.invokestatic 180, 3) := by decide +kernel
theorem dX7_most_28 : decode cX7_most 28 = .ok (.ifCond .ne 5, 3) := by decide +kernel
theorem dX7_most_31 : decode cX7_most 31 = .ok (.iconst (-1), 1) := by decide +kernel
theorem dX7_most_32 : decode cX7_most 32 = .ok (.ireturn, 1) := by decide +kernel
theorem dX7_most_33 : decode cX7_most 33 = .ok (.aload 5, 2) := by decide +kernel
theorem dX7_most_35 : decode cX7_most 35 = .ok (.getfield 184, 3) := by decide +kernel
theorem dX7_most_38 : decode cX7_most 38 = .ok (.ifCond .ne 9, 3) := by decide +kernel
theorem dX7_most_41 : decode cX7_most 41 = .ok (.aload_n 0, 1) := by decide +kernel
theorem dX7_most_42 : decode cX7_most 42 = .ok (.iconst 1, 1) := by decide +kernel
theorem dX7_most_43 : decode cX7_most 43 = .ok (.invokevirtual 94, 3) := by decide +kernel
theorem dX7_most_46 : decode cX7_most 46 = .ok (.ireturn, 1) := by decide +kernel
theorem dX7_most_47 : decode cX7_most 47 = .ok (.bipush (-9), 2) := by decide +kernel
theorem dX7_most_49 : decode cX7_most 49 = .ok (.istore 6, 2) := by decide +kernel
theorem dX7_most_51 : decode cX7_most 51 = .ok (.iconst (-1), 1) := by decide +kernel
theorem dX7_most_52 : decode cX7_most 52 = .ok (.istore 7, 2) := by decide +kernel
theorem dX7_most_54 : decode cX7_most 54 = .ok (.bipush 14, 2) := by decide +kernel
theorem dX7_most_56 : decode cX7_most 56 = .ok (.istore 8, 2) := by decide +kernel
theorem dX7_most_58 : decode cX7_most 58 = .ok (.iload 8, 2) := by decide +kernel
theorem dX7_most_60 : decode cX7_most 60 = .ok (.bipush 30, 2) := by decide +kernel
theorem dX7_most_62 : decode cX7_most 62 = .ok (.if_icmp .gt 166, 3) := by decide +kernel
theorem dX7_most_65 : decode cX7_most 65 = .ok (.iconst 0, 1) := by decide +kernel
theorem dX7_most_66 : decode cX7_most 66 = .ok (.istore 9, 2) := by decide +kernel
theorem dX7_most_68 : decode cX7_most 68 = .ok (.iload 9, 2) := by decide +kernel
theorem dX7_most_70 : decode cX7_most 70 = .ok (.getstatic 297, 3) := by decide +kernel
theorem dX7_most_73 : decode cX7_most 73 = .ok (.arraylength, 1) := by decide +kernel
theorem dX7_most_74 : decode cX7_most 74 = .ok (.if_icmp .ge 148, 3) := by decide +kernel
theorem dX7_most_77 : decode cX7_most 77 = .ok (.getstatic 297, 3) := by decide +kernel
theorem dX7_most_80 : decode cX7_most 80 = .ok (.iload 9, 2) := by decide +kernel
theorem dX7_most_82 : decode cX7_most 82 = .ok (.iaload, 1) := by decide +kernel
theorem dX7_most_83 : decode cX7_most 83 = .ok (.istore 10, 2) := by decide +kernel
theorem dX7_most_85 : decode cX7_most 85 = .ok (.aload_n 0, 1) := by decide +kernel
theorem dX7_most_86 : decode cX7_most 86 = .ok (.getfield 44, 3) := by decide +kernel
theorem dX7_most_89 : decode cX7_most 89 = .ok (.aload 5, 2) := by decide +kernel
theorem dX7_most_91 : decode cX7_most 91 = .ok (.aload 5, 2) := by decide +kernel
theorem dX7_most_93 : decode cX7_most 93 = .ok (.getfield 198, 3) := by decide +kernel
theorem dX7_most_96 : decode cX7_most 96 = .ok (.aload 5, 2) := by decide +kernel
theorem dX7_most_98 : decode cX7_most 98 = .ok (.getfield 201, 3) := by decide +kernel
theorem dX7_most_101 : decode cX7_most 101 = .ok (.invokevirtual 204, 3) := by decide +kernel
theorem dX7_most_104 : decode cX7_most 104 = .ok (.iconst 1, 1) := by decide +kernel
theorem dX7_most_105 : decode cX7_most 105 = .ok (.istore 11, 2) := by decide +kernel
theorem dX7_most_107 : decode cX7_most 107 = .ok (.iload 11, 2) := by decide +kernel
theorem dX7_most_109 : decode cX7_most 109 = .ok (.bipush 80, 2) := by decide +kernel
theorem dX7_most_111 : decode cX7_most 111 = .ok (.if_icmp .gt 105, 3) := by decide +kernel
theorem dX7_most_114 : decode cX7_most 114 = .ok (.aload_n 0, 1) := by decide +kernel
theorem dX7_most_115 : decode cX7_most 115 = .ok (.getfield 44, 3) := by decide +kernel
theorem dX7_most_118 : decode cX7_most 118 = .ok (.iload 8, 2) := by decide +kernel
theorem dX7_most_120 : decode cX7_most 120 = .ok (.iload 10, 2) := by decide +kernel
theorem dX7_most_122 : decode cX7_most 122 = .ok (.invokevirtual 300, 3) := by decide +kernel
theorem dX7_most_125 : decode cX7_most 125 = .ok (.iload 11, 2) := by decide +kernel
theorem dX7_most_127 : decode cX7_most 127 = .ok (.iconst 4, 1) := by decide +kernel
theorem dX7_most_128 : decode cX7_most 128 = .ok (.irem, 1) := by decide +kernel
theorem dX7_most_129 : decode cX7_most 129 = .ok (.ifCond .ne 27, 3) := by decide +kernel
theorem dX7_most_132 : decode cX7_most 132 = .ok (.aload_n 0, 1) := by decide +kernel
theorem dX7_most_133 : decode cX7_most 133 = .ok (.getfield 44, 3) := by decide +kernel
theorem dX7_most_136 : decode cX7_most 136 = .ok (.invokevirtual 291, 3) := by decide +kernel
theorem dX7_most_139 : decode cX7_most 139 = .ok (.iload 4, 2) := by decide +kernel
theorem dX7_most_141 : decode cX7_most 141 = .ok (.if_icmp .lt 15, 3) := by decide +kernel
theorem dX7_most_144 : decode cX7_most 144 = .ok (.aload_n 0, 1) := by decide +kernel
theorem dX7_most_145 : decode cX7_most 145 = .ok (.getfield 44, 3) := by decide +kernel
theorem dX7_most_148 : decode cX7_most 148 = .ok (.iload_n 2, 1) := by decide +kernel
theorem dX7_most_149 : decode cX7_most 149 = .ok (.iload_n 3, 1) := by decide +kernel
theorem dX7_most_150 : decode cX7_most 150 = .ok (.invokevirtual 246, 3) := by decide +kernel
theorem dX7_most_153 : decode cX7_most 153 = .ok (.goto 4, 3) := by decide +kernel
theorem dX7_most_156 : decode cX7_most 156 = .ok (.iconst (-1), 1) := by decide +kernel
theorem dX7_most_157 : decode cX7_most 157 = .ok (.istore 12, 2) := by decide +kernel
theorem dX7_most_159 : decode cX7_most 159 = .ok (.sipush 10000, 3) := by decide +kernel
theorem dX7_most_162 : decode cX7_most 162 = .ok (.iload 8, 2) := by decide +kernel
theorem dX7_most_164 : decode cX7_most 164 = .ok (.imul, 1) := by decide +kernel
theorem dX7_most_165 : decode cX7_most 165 = .ok (.bipush 100, 2) := by decide +kernel
theorem dX7_most_167 : decode cX7_most 167 = .ok (.iload 11, 2) := by decide +kernel
theorem dX7_most_169 : decode cX7_most 169 = .ok (.imul, 1) := by decide +kernel
theorem dX7_most_170 : decode cX7_most 170 = .ok (.iadd, 1) := by decide +kernel
theorem dX7_most_171 : decode cX7_most 171 = .ok (.iload 10, 2) := by decide +kernel
theorem dX7_most_173 : decode cX7_most 173 = .ok (.iadd, 1) := by decide +kernel
theorem dX7_most_174 : decode cX7_most 174 = .ok (.istore 13, 2) := by decide +kernel
theorem dX7_most_176 : decode cX7_most 176 = .ok (.iload 12, 2) := by decide +kernel
theorem dX7_most_178 : decode cX7_most 178 = .ok (.iload 7, 2) := by decide +kernel
theorem dX7_most_180 : decode cX7_most 180 = .ok (.if_icmp .gt 22, 3) := by decide +kernel
theorem dX7_most_183 : decode cX7_most 183 = .ok (.iload 12, 2) := by decide +kernel
theorem dX7_most_185 : decode cX7_most 185 = .ok (.ifCond .lt 25, 3) := by decide +kernel
theorem dX7_most_188 : decode cX7_most 188 = .ok (.iload 12, 2) := by decide +kernel
theorem dX7_most_190 : decode cX7_most 190 = .ok (.iload 7, 2) := by decide +kernel
theorem dX7_most_192 : decode cX7_most 192 = .ok (.if_icmp .ne 18, 3) := by decide +kernel
theorem dX7_most_195 : decode cX7_most 195 = .ok (.iload 13, 2) := by decide +kernel
theorem dX7_most_197 : decode cX7_most 197 = .ok (.iload 6, 2) := by decide +kernel
theorem dX7_most_199 : decode cX7_most 199 = .ok (.if_icmp .ge 11, 3) := by decide +kernel
theorem dX7_most_202 : decode cX7_most 202 = .ok (.iload 12, 2) := by decide +kernel
theorem dX7_most_204 : decode cX7_most 204 = .ok (.istore 7, 2) := by decide +kernel
theorem dX7_most_206 : decode cX7_most 206 = .ok (.iload 13, 2) := by decide +kernel
theorem dX7_most_208 : decode cX7_most 208 = .ok (.istore 6, 2) := by decide +kernel
theorem dX7_most_210 : decode cX7_most 210 = .ok (.iinc 11 1, 3) := by decide +kernel
theorem dX7_most_213 : decode cX7_most 213 = .ok (.goto (-106), 3) := by decide +kernel
theorem dX7_most_216 : decode cX7_most 216 = .ok (.iinc 9 1, 3) := by decide +kernel
theorem dX7_most_219 : decode cX7_most 219 = .ok (.goto (-151), 3) := by decide +kernel
theorem dX7_most_222 : decode cX7_most 222 = .ok (.iinc 8 2, 3) := by decide +kernel
theorem dX7_most_225 : decode cX7_most 225 = .ok (.goto (-167), 3) := by decide +kernel
theorem dX7_most_228 : decode cX7_most 228 = .ok (.iload 6, 2) := by decide +kernel
theorem dX7_most_230 : decode cX7_most 230 = .ok (.bipush (-9), 2) := by decide +kernel
theorem dX7_most_232 : decode cX7_most 232 = .ok (.if_icmp .ne 8, 3) := by decide +kernel
theorem dX7_most_235 : decode cX7_most 235 = .ok (.bipush (-9), 2) := by decide +kernel
theorem dX7_most_237 : decode cX7_most 237 = .ok (.goto 11, 3) := by decide +kernel
theorem dX7_most_240 : decode cX7_most 240 = .ok (.aload_n 0, 1) := by decide +kernel
theorem dX7_most_241 : decode cX7_most 241 = .ok (.iload 6, 2) := by decide +kernel
theorem dX7_most_243 : decode cX7_most 243 = .ok (.iload 7, 2) := by decide +kernel
theorem dX7_most_245 : decode cX7_most 245 = .ok (.invokevirtual 117, 3) := by decide +kernel
theorem dX7_most_248 : decode cX7_most 248 = .ok (.ireturn, 1) := by decide +kernel
theorem dX7_off_0 : decode cX7_off 0 = .ok (.aload_n 0, 1) := by decide +kernel
theorem dX7_off_1 : decode cX7_off 1 = .ok (.iload_n 1, 1) := by decide +kernel
theorem dX7_off_2 : decode cX7_off 2 = .ok (.invokevirtual 162, 3) := by decide +kernel
theorem dX7_off_5 : decode cX7_off 5 = .ok (.astore 5, 2) := by decide +kernel
theorem dX7_off_7 : decode cX7_off 7 = .ok (.aload 5, 2) := by decide +kernel
theorem dX7_off_9 : decode cX7_off 9 = .ok (.ifnull 23, 3) := by decide +kernel
theorem dX7_off_12 : decode cX7_off 12 = .ok (.iload_n 2, 1) := by decide +kernel
theorem dX7_off_13 : decode cX7_off 13 = .ok (.iload_n 3, 1) := by decide +kernel
theorem dX7_off_14 : decode cX7_off 14 = .ok (.invokestatic 284, 3) := by decide +kernel
theorem dX7_off_17 : decode cX7_off 17 = .ok (.ifCond .eq 15, 3) := by decide +kernel
theorem dX7_off_20 : decode cX7_off 20 = .ok (.iload 4, 2) := by decide +kernel
theorem dX7_off_22 : decode cX7_off 22 = .ok (.iconst 0, 1) := by decide +kernel
theorem dX7_off_23 : decode cX7_off 23 = .ok (.sipush 2000, 3) := by decide +kernel
theorem dX7_off_26 : decode cX7_off 26 = .ok (.invokestatic 180, 3) := by decide +kernel
theorem dX7_off_29 : decode cX7_off 29 = .ok (.ifCond .ne 5, 3) := by decide +kernel
theorem dX7_off_32 : decode cX7_off 32 = .ok (.iconst (-1), 1) := by decide +kernel
theorem dX7_off_33 : decode cX7_off 33 = .ok (.ireturn, 1) := by decide +kernel
theorem dX7_off_34 : decode cX7_off 34 = .ok (.aload 5, 2) := by decide +kernel
theorem dX7_off_36 : decode cX7_off 36 = .ok (.getfield 184, 3) := by decide +kernel
theorem dX7_off_39 : decode cX7_off 39 = .ok (.ifCond .ne 9, 3) := by decide +kernel
theorem dX7_off_42 : decode cX7_off 42 = .ok (.aload_n 0, 1) := by decide +kernel
theorem dX7_off_43 : decode cX7_off 43 = .ok (.iconst 1, 1) := by decide +kernel
theorem dX7_off_44 : decode cX7_off 44 = .ok (.invokevirtual 94, 3) := by decide +kernel
theorem dX7_off_47 : decode cX7_off 47 = .ok (.ireturn, 1) := by decide +kernel
theorem dX7_off_48 : decode cX7_off 48 = .ok (.iconst 0, 1) := by decide +kernel
theorem dX7_off_49 : decode cX7_off 49 = .ok (.istore 6, 2) := by decide +kernel
theorem dX7_off_51 : decode cX7_off 51 = .ok (.iconst 0, 1) := by decide +kernel
theorem dX7_off_52 : decode cX7_off 52 = .ok (.istore 7, 2) := by decide +kernel
theorem dX7_off_54 : decode cX7_off 54 = .ok (.aload_n 0, 1) := by decide +kernel
theorem dX7_off_55 : decode cX7_off 55 = .ok (.getfield 44, 3) := by decide +kernel
theorem dX7_off_58 : decode cX7_off 58 = .ok (.aload 5, 2) := by decide +kernel
theorem dX7_off_60 : decode cX7_off 60 = .ok (.aload 5, 2) := by decide +kernel
theorem dX7_off_62 : decode cX7_off 62 = .ok (.getfield 198, 3) := by decide +kernel
theorem dX7_off_65 : decode cX7_off 65 = .ok (.aload 5, 2) := by decide +kernel
theorem dX7_off_67 : decode cX7_off 67 = .ok (.getfield 201, 3) := by decide +kernel
theorem dX7_off_70 : decode cX7_off 70 = .ok (.invokevirtual 204, 3) := by decide +kernel
theorem dX7_off_73 : decode cX7_off 73 = .ok (.iconst 1, 1) := by decide +kernel
theorem dX7_off_74 : decode cX7_off 74 = .ok (.istore 8, 2) := by decide +kernel
theorem dX7_off_76 : decode cX7_off 76 = .ok (.iload 8, 2) := by decide +kernel
theorem dX7_off_78 : decode cX7_off 78 = .ok (.bipush 120, 2) := by decide +kernel
theorem dX7_off_80 : decode cX7_off 80 = .ok (.if_icmp .gt 66, 3) := by decide +kernel
theorem dX7_off_83 : decode cX7_off 83 = .ok (.aload_n 0, 1) := by decide +kernel
theorem dX7_off_84 : decode cX7_off 84 = .ok (.getfield 44, 3) := by decide +kernel
theorem dX7_off_87 : decode cX7_off 87 = .ok (.iload_n 2, 1) := by decide +kernel
theorem dX7_off_88 : decode cX7_off 88 = .ok (.iload_n 3, 1) := by decide +kernel
theorem dX7_off_89 : decode cX7_off 89 = .ok (.invokevirtual 300, 3) := by decide +kernel
theorem dX7_off_92 : decode cX7_off 92 = .ok (.aload_n 0, 1) := by decide +kernel
theorem dX7_off_93 : decode cX7_off 93 = .ok (.getfield 47, 3) := by decide +kernel
theorem dX7_off_96 : decode cX7_off 96 = .ok (.aload_n 0, 1) := by decide +kernel
theorem dX7_off_97 : decode cX7_off 97 = .ok (.getfield 44, 3) := by decide +kernel
theorem dX7_off_100 : decode cX7_off 100 = .ok (.invokevirtual 240, 3) := by decide +kernel
theorem dX7_off_103 : decode cX7_off 103 = .ok (.aload_n 0, 1) := by decide +kernel
theorem dX7_off_104 : decode cX7_off 104 = .ok (.getfield 47, 3) := by decide +kernel
theorem dX7_off_107 : decode cX7_off 107 = .ok (.bipush 30, 2) := by decide +kernel
theorem dX7_off_109 : decode cX7_off 109 = .ok (.invokevirtual 303, 3) := by decide +kernel
theorem dX7_off_112 : decode cX7_off 112 = .ok (.iload 4, 2) := by decide +kernel
theorem dX7_off_114 : decode cX7_off 114 = .ok (.isub, 1) := by decide +kernel
theorem dX7_off_115 : decode cX7_off 115 = .ok (.invokestatic 306, 3) := by decide +kernel
theorem dX7_off_118 : decode cX7_off 118 = .ok (.istore 9, 2) := by decide +kernel
theorem dX7_off_120 : decode cX7_off 120 = .ok (.iload 6, 2) := by decide +kernel
theorem dX7_off_122 : decode cX7_off 122 = .ok (.ifCond .eq 10, 3) := by decide +kernel
theorem dX7_off_125 : decode cX7_off 125 = .ok (.iload 9, 2) := by decide +kernel
theorem dX7_off_127 : decode cX7_off 127 = .ok (.iload 7, 2) := by decide +kernel
theorem dX7_off_129 : decode cX7_off 129 = .ok (.if_icmp .ge 11, 3) := by decide +kernel
theorem dX7_off_132 : decode cX7_off 132 = .ok (.iload 8, 2) := by decide +kernel
theorem dX7_off_134 : decode cX7_off 134 = .ok (.istore 6, 2) := by decide +kernel
theorem dX7_off_136 : decode cX7_off 136 = .ok (.iload 9, 2) := by decide +kernel
theorem dX7_off_138 : decode cX7_off 138 = .ok (.istore 7, 2) := by decide +kernel
theorem dX7_off_140 : decode cX7_off 140 = .ok (.iinc 8 1, 3) := by decide +kernel
theorem dX7_off_143 : decode cX7_off 143 = .ok (.goto (-67), 3) := by decide +kernel
theorem dX7_off_146 : decode cX7_off 146 = .ok (.aload_n 0, 1) := by decide +kernel
theorem dX7_off_147 : decode cX7_off 147 = .ok (.iload 6, 2) := by decide +kernel
theorem dX7_off_149 : decode cX7_off 149 = .ok (.iload 7, 2) := by decide +kernel
theorem dX7_off_151 : decode cX7_off 151 = .ok (.invokevirtual 117, 3) := by decide +kernel
theorem dX7_off_154 : decode cX7_off 154 = .ok (.ireturn, 1) := by decide +kernel
theorem dX7_digest_0 : decode cX7_digest 0 = .ok (.ldc2_w 380, 3) := by decide +kernel
theorem dX7_digest_3 : decode cX7_digest 3 = .ok (.lstore_n 1, 1) := by decide +kernel
theorem dX7_digest_4 : decode cX7_digest 4 = .ok (.iconst 0, 1) := by decide +kernel
theorem dX7_digest_5 : decode cX7_digest 5 = .ok (.istore_n 3, 1) := by decide +kernel
theorem dX7_digest_6 : decode cX7_digest 6 = .ok (.iload_n 3, 1) := by decide +kernel
theorem dX7_digest_7 : decode cX7_digest 7 = .ok (.bipush 7, 2) := by decide +kernel
theorem dX7_digest_9 : decode cX7_digest 9 = .ok (.if_icmp .gt 22, 3) := by decide +kernel
theorem dX7_digest_12 : decode cX7_digest 12 = .ok (.ldc2_w 382, 3) := by decide +kernel
theorem dX7_digest_15 : decode cX7_digest 15 = .ok (.lload_n 1, 1) := by decide +kernel
theorem dX7_digest_16 : decode cX7_digest 16 = .ok (.lmul, 1) := by decide +kernel
theorem dX7_digest_17 : decode cX7_digest 17 = .ok (.aload_n 0, 1) := by decide +kernel
theorem dX7_digest_18 : decode cX7_digest 18 = .ok (.iload_n 3, 1) := by decide +kernel
theorem dX7_digest_19 : decode cX7_digest 19 = .ok (.invokevirtual 384, 3) := by decide +kernel
theorem dX7_digest_22 : decode cX7_digest 22 = .ok (.i2l, 1) := by decide +kernel
theorem dX7_digest_23 : decode cX7_digest 23 = .ok (.ladd, 1) := by decide +kernel
theorem dX7_digest_24 : decode cX7_digest 24 = .ok (.lstore_n 1, 1) := by decide +kernel
theorem dX7_digest_25 : decode cX7_digest 25 = .ok (.iinc 3 1, 3) := by decide +kernel
theorem dX7_digest_28 : decode cX7_digest 28 = .ok (.goto (-22), 3) := by decide +kernel
theorem dX7_digest_31 : decode cX7_digest 31 = .ok (.aload_n 0, 1) := by decide +kernel
theorem dX7_digest_32 : decode cX7_digest 32 = .ok (.getfield 23, 3) := by decide +kernel
theorem dX7_digest_35 : decode cX7_digest 35 = .ok (.astore_n 3, 1) := by decide +kernel
theorem dX7_digest_36 : decode cX7_digest 36 = .ok (.aload_n 3, 1) := by decide +kernel
theorem dX7_digest_37 : decode cX7_digest 37 = .ok (.arraylength, 1) := by decide +kernel
theorem dX7_digest_38 : decode cX7_digest 38 = .ok (.istore 4, 2) := by decide +kernel
theorem dX7_digest_40 : decode cX7_digest 40 = .ok (.iconst 0, 1) := by decide +kernel
theorem dX7_digest_41 : decode cX7_digest 41 = .ok (.istore 5, 2) := by decide +kernel
theorem dX7_digest_43 : decode cX7_digest 43 = .ok (.iload 5, 2) := by decide +kernel
theorem dX7_digest_45 : decode cX7_digest 45 = .ok (.iload 4, 2) := by decide +kernel
theorem dX7_digest_47 : decode cX7_digest 47 = .ok (.if_icmp .ge 31, 3) := by decide +kernel
theorem dX7_digest_50 : decode cX7_digest 50 = .ok (.aload_n 3, 1) := by decide +kernel
theorem dX7_digest_51 : decode cX7_digest 51 = .ok (.iload 5, 2) := by decide +kernel
theorem dX7_digest_53 : decode cX7_digest 53 = .ok (.aaload, 1) := by decide +kernel
theorem dX7_digest_54 : decode cX7_digest 54 = .ok (.astore 6, 2) := by decide +kernel
theorem dX7_digest_56 : decode cX7_digest 56 = .ok (.aload 6, 2) := by decide +kernel
theorem dX7_digest_58 : decode cX7_digest 58 = .ok (.ifnonnull 7, 3) := by decide +kernel
theorem dX7_digest_61 : decode cX7_digest 61 = .ok (.lload_n 1, 1) := by decide +kernel
theorem dX7_digest_62 : decode cX7_digest 62 = .ok (.goto 9, 3) := by decide +kernel
theorem dX7_digest_65 : decode cX7_digest 65 = .ok (.aload 6, 2) := by decide +kernel
theorem dX7_digest_67 : decode cX7_digest 67 = .ok (.lload_n 1, 1) := by decide +kernel
theorem dX7_digest_68 : decode cX7_digest 68 = .ok (.invokevirtual 386, 3) := by decide +kernel
theorem dX7_digest_71 : decode cX7_digest 71 = .ok (.lstore_n 1, 1) := by decide +kernel
theorem dX7_digest_72 : decode cX7_digest 72 = .ok (.iinc 5 1, 3) := by decide +kernel
theorem dX7_digest_75 : decode cX7_digest 75 = .ok (.goto (-32), 3) := by decide +kernel
theorem dX7_digest_78 : decode cX7_digest 78 = .ok (.aload_n 0, 1) := by decide +kernel
theorem dX7_digest_79 : decode cX7_digest 79 = .ok (.getfield 29, 3) := by decide +kernel
theorem dX7_digest_82 : decode cX7_digest 82 = .ok (.astore_n 3, 1) := by decide +kernel
theorem dX7_digest_83 : decode cX7_digest 83 = .ok (.aload_n 3, 1) := by decide +kernel
theorem dX7_digest_84 : decode cX7_digest 84 = .ok (.arraylength, 1) := by decide +kernel
theorem dX7_digest_85 : decode cX7_digest 85 = .ok (.istore 4, 2) := by decide +kernel
theorem dX7_digest_87 : decode cX7_digest 87 = .ok (.iconst 0, 1) := by decide +kernel
theorem dX7_digest_88 : decode cX7_digest 88 = .ok (.istore 5, 2) := by decide +kernel
theorem dX7_digest_90 : decode cX7_digest 90 = .ok (.iload 5, 2) := by decide +kernel
theorem dX7_digest_92 : decode cX7_digest 92 = .ok (.iload 4, 2) := by decide +kernel
theorem dX7_digest_94 : decode cX7_digest 94 = .ok (.if_icmp .ge 31, 3) := by decide +kernel
theorem dX7_digest_97 : decode cX7_digest 97 = .ok (.aload_n 3, 1) := by decide +kernel
theorem dX7_digest_98 : decode cX7_digest 98 = .ok (.iload 5, 2) := by decide +kernel
theorem dX7_digest_100 : decode cX7_digest 100 = .ok (.aaload, 1) := by decide +kernel
theorem dX7_digest_101 : decode cX7_digest 101 = .ok (.astore 6, 2) := by decide +kernel
theorem dX7_digest_103 : decode cX7_digest 103 = .ok (.aload 6, 2) := by decide +kernel
theorem dX7_digest_105 : decode cX7_digest 105 = .ok (.ifnonnull 7, 3) := by decide +kernel
theorem dX7_digest_108 : decode cX7_digest 108 = .ok (.lload_n 1, 1) := by decide +kernel
theorem dX7_digest_109 : decode cX7_digest 109 = .ok (.goto 9, 3) := by decide +kernel
theorem dX7_digest_112 : decode cX7_digest 112 = .ok (.aload 6, 2) := by decide +kernel
theorem dX7_digest_114 : decode cX7_digest 114 = .ok (.lload_n 1, 1) := by decide +kernel
theorem dX7_digest_115 : decode cX7_digest 115 = .ok (.invokevirtual 390, 3) := by decide +kernel
theorem dX7_digest_118 : decode cX7_digest 118 = .ok (.lstore_n 1, 1) := by decide +kernel
theorem dX7_digest_119 : decode cX7_digest 119 = .ok (.iinc 5 1, 3) := by decide +kernel
theorem dX7_digest_122 : decode cX7_digest 122 = .ok (.goto (-32), 3) := by decide +kernel
theorem dX7_digest_125 : decode cX7_digest 125 = .ok (.aload_n 0, 1) := by decide +kernel
theorem dX7_digest_126 : decode cX7_digest 126 = .ok (.getfield 36, 3) := by decide +kernel
theorem dX7_digest_129 : decode cX7_digest 129 = .ok (.lload_n 1, 1) := by decide +kernel
theorem dX7_digest_130 : decode cX7_digest 130 = .ok (.invokevirtual 391, 3) := by decide +kernel
theorem dX7_digest_133 : decode cX7_digest 133 = .ok (.lstore_n 1, 1) := by decide +kernel
theorem dX7_digest_134 : decode cX7_digest 134 = .ok (.aload_n 0, 1) := by decide +kernel
theorem dX7_digest_135 : decode cX7_digest 135 = .ok (.getfield 9, 3) := by decide +kernel
theorem dX7_digest_138 : decode cX7_digest 138 = .ok (.astore_n 3, 1) := by decide +kernel
theorem dX7_digest_139 : decode cX7_digest 139 = .ok (.aload_n 3, 1) := by decide +kernel
theorem dX7_digest_140 : decode cX7_digest 140 = .ok (.arraylength, 1) := by decide +kernel
theorem dX7_digest_141 : decode cX7_digest 141 = .ok (.istore 4, 2) := by decide +kernel
theorem dX7_digest_143 : decode cX7_digest 143 = .ok (.iconst 0, 1) := by decide +kernel
theorem dX7_digest_144 : decode cX7_digest 144 = .ok (.istore 5, 2) := by decide +kernel
theorem dX7_digest_146 : decode cX7_digest 146 = .ok (.iload 5, 2) := by decide +kernel
theorem dX7_digest_148 : decode cX7_digest 148 = .ok (.iload 4, 2) := by decide +kernel
theorem dX7_digest_150 : decode cX7_digest 150 = .ok (.if_icmp .ge 31, 3) := by decide +kernel
theorem dX7_digest_153 : decode cX7_digest 153 = .ok (.aload_n 3, 1) := by decide +kernel
theorem dX7_digest_154 : decode cX7_digest 154 = .ok (.iload 5, 2) := by decide +kernel
theorem dX7_digest_156 : decode cX7_digest 156 = .ok (.aaload, 1) := by decide +kernel
theorem dX7_digest_157 : decode cX7_digest 157 = .ok (.astore 6, 2) := by decide +kernel
theorem dX7_digest_159 : decode cX7_digest 159 = .ok (.aload 6, 2) := by decide +kernel
theorem dX7_digest_161 : decode cX7_digest 161 = .ok (.ifnonnull 7, 3) := by decide +kernel
theorem dX7_digest_164 : decode cX7_digest 164 = .ok (.lload_n 1, 1) := by decide +kernel
theorem dX7_digest_165 : decode cX7_digest 165 = .ok (.goto 9, 3) := by decide +kernel
theorem dX7_digest_168 : decode cX7_digest 168 = .ok (.aload 6, 2) := by decide +kernel
theorem dX7_digest_170 : decode cX7_digest 170 = .ok (.lload_n 1, 1) := by decide +kernel
theorem dX7_digest_171 : decode cX7_digest 171 = .ok (.invokevirtual 392, 3) := by decide +kernel
theorem dX7_digest_174 : decode cX7_digest 174 = .ok (.lstore_n 1, 1) := by decide +kernel
theorem dX7_digest_175 : decode cX7_digest 175 = .ok (.iinc 5 1, 3) := by decide +kernel
theorem dX7_digest_178 : decode cX7_digest 178 = .ok (.goto (-32), 3) := by decide +kernel
theorem dX7_digest_181 : decode cX7_digest 181 = .ok (.aload_n 0, 1) := by decide +kernel
theorem dX7_digest_182 : decode cX7_digest 182 = .ok (.getfield 17, 3) := by decide +kernel
theorem dX7_digest_185 : decode cX7_digest 185 = .ok (.astore_n 3, 1) := by decide +kernel
theorem dX7_digest_186 : decode cX7_digest 186 = .ok (.aload_n 3, 1) := by decide +kernel
theorem dX7_digest_187 : decode cX7_digest 187 = .ok (.arraylength, 1) := by decide +kernel
theorem dX7_digest_188 : decode cX7_digest 188 = .ok (.istore 4, 2) := by decide +kernel
theorem dX7_digest_190 : decode cX7_digest 190 = .ok (.iconst 0, 1) := by decide +kernel
theorem dX7_digest_191 : decode cX7_digest 191 = .ok (.istore 5, 2) := by decide +kernel
theorem dX7_digest_193 : decode cX7_digest 193 = .ok (.iload 5, 2) := by decide +kernel
theorem dX7_digest_195 : decode cX7_digest 195 = .ok (.iload 4, 2) := by decide +kernel
theorem dX7_digest_197 : decode cX7_digest 197 = .ok (.if_icmp .ge 31, 3) := by decide +kernel
theorem dX7_digest_200 : decode cX7_digest 200 = .ok (.aload_n 3, 1) := by decide +kernel
theorem dX7_digest_201 : decode cX7_digest 201 = .ok (.iload 5, 2) := by decide +kernel
theorem dX7_digest_203 : decode cX7_digest 203 = .ok (.aaload, 1) := by decide +kernel
theorem dX7_digest_204 : decode cX7_digest 204 = .ok (.astore 6, 2) := by decide +kernel
theorem dX7_digest_206 : decode cX7_digest 206 = .ok (.aload 6, 2) := by decide +kernel
theorem dX7_digest_208 : decode cX7_digest 208 = .ok (.ifnonnull 7, 3) := by decide +kernel
theorem dX7_digest_211 : decode cX7_digest 211 = .ok (.lload_n 1, 1) := by decide +kernel
theorem dX7_digest_212 : decode cX7_digest 212 = .ok (.goto 9, 3) := by decide +kernel
theorem dX7_digest_215 : decode cX7_digest 215 = .ok (.aload 6, 2) := by decide +kernel
theorem dX7_digest_217 : decode cX7_digest 217 = .ok (.lload_n 1, 1) := by decide +kernel
theorem dX7_digest_218 : decode cX7_digest 218 = .ok (.invokevirtual 393, 3) := by decide +kernel
theorem dX7_digest_221 : decode cX7_digest 221 = .ok (.lstore_n 1, 1) := by decide +kernel
theorem dX7_digest_222 : decode cX7_digest 222 = .ok (.iinc 5 1, 3) := by decide +kernel
theorem dX7_digest_225 : decode cX7_digest 225 = .ok (.goto (-32), 3) := by decide +kernel
theorem dX7_digest_228 : decode cX7_digest 228 = .ok (.lload_n 1, 1) := by decide +kernel
theorem dX7_digest_229 : decode cX7_digest 229 = .ok (.lreturn, 1) := by decide +kernel
theorem dX7_fault_0 : decode cX7_fault 0 = .ok (.aload_n 0, 1) := by decide +kernel
theorem dX7_fault_1 : decode cX7_fault 1 = .ok (.iload_n 1, 1) := by decide +kernel
theorem dX7_fault_2 : decode cX7_fault 2 = .ok (.invokevirtual 142, 3) := by decide +kernel
theorem dX7_fault_5 : decode cX7_fault 5 = .ok (.astore_n 3, 1) := by decide +kernel
theorem dX7_fault_6 : decode cX7_fault 6 = .ok (.aload_n 3, 1) := by decide +kernel
theorem dX7_fault_7 : decode cX7_fault 7 = .ok (.ifnonnull 5, 3) := by decide +kernel
theorem dX7_fault_10 : decode cX7_fault 10 = .ok (.iconst (-1), 1) := by decide +kernel
theorem dX7_fault_11 : decode cX7_fault 11 = .ok (.ireturn, 1) := by decide +kernel
theorem dX7_fault_12 : decode cX7_fault 12 = .ok (.aload_n 3, 1) := by decide +kernel
theorem dX7_fault_13 : decode cX7_fault 13 = .ok (.invokevirtual 147, 3) := by decide +kernel
theorem dX7_fault_16 : decode cX7_fault 16 = .ok (.ifCond .ne 9, 3) := by decide +kernel
theorem dX7_fault_19 : decode cX7_fault 19 = .ok (.aload_n 0, 1) := by decide +kernel
theorem dX7_fault_20 : decode cX7_fault 20 = .ok (.iconst 1, 1) := by decide +kernel
theorem dX7_fault_21 : decode cX7_fault 21 = .ok (.invokevirtual 94, 3) := by decide +kernel
theorem dX7_fault_24 : decode cX7_fault 24 = .ok (.ireturn, 1) := by decide +kernel
theorem dX7_fault_25 : decode cX7_fault 25 = .ok (.iload_n 2, 1) := by decide +kernel
theorem dX7_fault_26 : decode cX7_fault 26 = .ok (.ifCond .eq 18, 3) := by decide +kernel
theorem dX7_fault_29 : decode cX7_fault 29 = .ok (.aload_n 0, 1) := by decide +kernel
theorem dX7_fault_30 : decode cX7_fault 30 = .ok (.getfield 53, 3) := by decide +kernel
theorem dX7_fault_33 : decode cX7_fault 33 = .ok (.aload_n 3, 1) := by decide +kernel
theorem dX7_fault_34 : decode cX7_fault 34 = .ok (.aload_n 0, 1) := by decide +kernel
theorem dX7_fault_35 : decode cX7_fault 35 = .ok (.getfield 63, 3) := by decide +kernel
theorem dX7_fault_38 : decode cX7_fault 38 = .ok (.invokevirtual 153, 3) := by decide +kernel
theorem dX7_fault_41 : decode cX7_fault 41 = .ok (.goto 16, 3) := by decide +kernel
theorem dX7_fault_44 : decode cX7_fault 44 = .ok (.aload_n 0, 1) := by decide +kernel
theorem dX7_fault_45 : decode cX7_fault 45 = .ok (.getfield 53, 3) := by decide +kernel
theorem dX7_fault_48 : decode cX7_fault 48 = .ok (.aload_n 3, 1) := by decide +kernel
theorem dX7_fault_49 : decode cX7_fault 49 = .ok (.aload_n 0, 1) := by decide +kernel
theorem dX7_fault_50 : decode cX7_fault 50 = .ok (.getfield 58, 3) := by decide +kernel
theorem dX7_fault_53 : decode cX7_fault 53 = .ok (.invokevirtual 156, 3) := by decide +kernel
theorem dX7_fault_56 : decode cX7_fault 56 = .ok (.pop, 1) := by decide +kernel
theorem dX7_fault_57 : decode cX7_fault 57 = .ok (.aload_n 0, 1) := by decide +kernel
theorem dX7_fault_58 : decode cX7_fault 58 = .ok (.getfield 53, 3) := by decide +kernel
theorem dX7_fault_61 : decode cX7_fault 61 = .ok (.getfield 159, 3) := by decide +kernel
theorem dX7_fault_64 : decode cX7_fault 64 = .ok (.ireturn, 1) := by decide +kernel
theorem dX7_slab_0 : decode cX7_slab 0 = .ok (.aload_n 0, 1) := by decide +kernel
theorem dX7_slab_1 : decode cX7_slab 1 = .ok (.iload_n 1, 1) := by decide +kernel
theorem dX7_slab_2 : decode cX7_slab 2 = .ok (.invokevirtual 162, 3) := by decide +kernel
theorem dX7_slab_5 : decode cX7_slab 5 = .ok (.astore_n 3, 1) := by decide +kernel
theorem dX7_slab_6 : decode cX7_slab 6 = .ok (.aload_n 0, 1) := by decide +kernel
theorem dX7_slab_7 : decode cX7_slab 7 = .ok (.iload_n 2, 1) := by decide +kernel
theorem dX7_slab_8 : decode cX7_slab 8 = .ok (.invokevirtual 142, 3) := by decide +kernel
theorem dX7_slab_11 : decode cX7_slab 11 = .ok (.astore 4, 2) := by decide +kernel
theorem dX7_slab_13 : decode cX7_slab 13 = .ok (.aload_n 3, 1) := by decide +kernel
theorem dX7_slab_14 : decode cX7_slab 14 = .ok (.ifnull 8, 3) := by decide +kernel
theorem dX7_slab_17 : decode cX7_slab 17 = .ok (.aload 4, 2) := by decide +kernel
theorem dX7_slab_19 : decode cX7_slab 19 = .ok (.ifnonnull 5, 3) := by decide +kernel
theorem dX7_slab_22 : decode cX7_slab 22 = .ok (.iconst (-1), 1) := by decide +kernel
theorem dX7_slab_23 : decode cX7_slab 23 = .ok (.ireturn, 1) := by decide +kernel
theorem dX7_slab_24 : decode cX7_slab 24 = .ok (.aload 4, 2) := by decide +kernel
theorem dX7_slab_26 : decode cX7_slab 26 = .ok (.invokevirtual 147, 3) := by decide +kernel
theorem dX7_slab_29 : decode cX7_slab 29 = .ok (.ifCond .ne 9, 3) := by decide +kernel
theorem dX7_slab_32 : decode cX7_slab 32 = .ok (.aload_n 0, 1) := by decide +kernel
theorem dX7_slab_33 : decode cX7_slab 33 = .ok (.iconst 1, 1) := by decide +kernel
theorem dX7_slab_34 : decode cX7_slab 34 = .ok (.invokevirtual 94, 3) := by decide +kernel
theorem dX7_slab_37 : decode cX7_slab 37 = .ok (.ireturn, 1) := by decide +kernel
theorem dX7_slab_38 : decode cX7_slab 38 = .ok (.aload_n 0, 1) := by decide +kernel
theorem dX7_slab_39 : decode cX7_slab 39 = .ok (.getfield 53, 3) := by decide +kernel
theorem dX7_slab_42 : decode cX7_slab 42 = .ok (.aload 4, 2) := by decide +kernel
theorem dX7_slab_44 : decode cX7_slab 44 = .ok (.aload_n 0, 1) := by decide +kernel
theorem dX7_slab_45 : decode cX7_slab 45 = .ok (.getfield 58, 3) := by decide +kernel
theorem dX7_slab_48 : decode cX7_slab 48 = .ok (.invokevirtual 156, 3) := by decide +kernel
theorem dX7_slab_51 : decode cX7_slab 51 = .ok (.istore 5, 2) := by decide +kernel
theorem dX7_slab_53 : decode cX7_slab 53 = .ok (.aload_n 0, 1) := by decide +kernel
theorem dX7_slab_54 : decode cX7_slab 54 = .ok (.getfield 53, 3) := by decide +kernel
theorem dX7_slab_57 : decode cX7_slab 57 = .ok (.getfield 159, 3) := by decide +kernel
theorem dX7_slab_60 : decode cX7_slab 60 = .ok (.bipush (-9), 2) := by decide +kernel
theorem dX7_slab_62 : decode cX7_slab 62 = .ok (.if_icmp .eq 6, 3) := by decide +kernel
theorem dX7_slab_65 : decode cX7_slab 65 = .ok (.bipush (-4), 2) := by decide +kernel
theorem dX7_slab_67 : decode cX7_slab 67 = .ok (.ireturn, 1) := by decide +kernel
theorem dX7_slab_68 : decode cX7_slab 68 = .ok (.aload_n 3, 1) := by decide +kernel
theorem dX7_slab_69 : decode cX7_slab 69 = .ok (.aload_n 0, 1) := by decide +kernel
theorem dX7_slab_70 : decode cX7_slab 70 = .ok (.getfield 58, 3) := by decide +kernel
theorem dX7_slab_73 : decode cX7_slab 73 = .ok (.invokevirtual 166, 3) := by decide +kernel
theorem dX7_slab_76 : decode cX7_slab 76 = .ok (.iload 5, 2) := by decide +kernel
theorem dX7_slab_78 : decode cX7_slab 78 = .ok (.ireturn, 1) := by decide +kernel
theorem dX7_plan_0 : decode cX7_plan 0 = .ok (.aload_n 0, 1) := by decide +kernel
theorem dX7_plan_1 : decode cX7_plan 1 = .ok (.iload_n 1, 1) := by decide +kernel
theorem dX7_plan_2 : decode cX7_plan 2 = .ok (.invokevirtual 170, 3) := by decide +kernel
theorem dX7_plan_5 : decode cX7_plan 5 = .ok (.astore_n 3, 1) := by decide +kernel
theorem dX7_plan_6 : decode cX7_plan 6 = .ok (.aload_n 0, 1) := by decide +kernel
theorem dX7_plan_7 : decode cX7_plan 7 = .ok (.iload_n 2, 1) := by decide +kernel
theorem dX7_plan_8 : decode cX7_plan 8 = .ok (.invokevirtual 142, 3) := by decide +kernel
theorem dX7_plan_11 : decode cX7_plan 11 = .ok (.astore 4, 2) := by decide +kernel
theorem dX7_plan_13 : decode cX7_plan 13 = .ok (.aload_n 3, 1) := by decide +kernel
theorem dX7_plan_14 : decode cX7_plan 14 = .ok (.ifnull 8, 3) := by decide +kernel
theorem dX7_plan_17 : decode cX7_plan 17 = .ok (.aload 4, 2) := by decide +kernel
theorem dX7_plan_19 : decode cX7_plan 19 = .ok (.ifnonnull 5, 3) := by decide +kernel
theorem dX7_plan_22 : decode cX7_plan 22 = .ok (.iconst (-1), 1) := by decide +kernel
theorem dX7_plan_23 : decode cX7_plan 23 = .ok (.ireturn, 1) := by decide +kernel
theorem dX7_plan_24 : decode cX7_plan 24 = .ok (.aload 4, 2) := by decide +kernel
theorem dX7_plan_26 : decode cX7_plan 26 = .ok (.invokevirtual 147, 3) := by decide +kernel
theorem dX7_plan_29 : decode cX7_plan 29 = .ok (.ifCond .ne 9, 3) := by decide +kernel
theorem dX7_plan_32 : decode cX7_plan 32 = .ok (.aload_n 0, 1) := by decide +kernel
theorem dX7_plan_33 : decode cX7_plan 33 = .ok (.iconst 1, 1) := by decide +kernel
theorem dX7_plan_34 : decode cX7_plan 34 = .ok (.invokevirtual 94, 3) := by decide +kernel
theorem dX7_plan_37 : decode cX7_plan 37 = .ok (.ireturn, 1) := by decide +kernel
theorem dX7_plan_38 : decode cX7_plan 38 = .ok (.aload_n 0, 1) := by decide +kernel
theorem dX7_plan_39 : decode cX7_plan 39 = .ok (.getfield 53, 3) := by decide +kernel
theorem dX7_plan_42 : decode cX7_plan 42 = .ok (.aload 4, 2) := by decide +kernel
theorem dX7_plan_44 : decode cX7_plan 44 = .ok (.aload_n 0, 1) := by decide +kernel
theorem dX7_plan_45 : decode cX7_plan 45 = .ok (.getfield 63, 3) := by decide +kernel
theorem dX7_plan_48 : decode cX7_plan 48 = .ok (.invokevirtual 153, 3) := by decide +kernel
theorem dX7_plan_51 : decode cX7_plan 51 = .ok (.aload_n 0, 1) := by decide +kernel
theorem dX7_plan_52 : decode cX7_plan 52 = .ok (.getfield 53, 3) := by decide +kernel
theorem dX7_plan_55 : decode cX7_plan 55 = .ok (.getfield 159, 3) := by decide +kernel
theorem dX7_plan_58 : decode cX7_plan 58 = .ok (.bipush (-9), 2) := by decide +kernel
theorem dX7_plan_60 : decode cX7_plan 60 = .ok (.if_icmp .eq 6, 3) := by decide +kernel
theorem dX7_plan_63 : decode cX7_plan 63 = .ok (.bipush (-4), 2) := by decide +kernel
theorem dX7_plan_65 : decode cX7_plan 65 = .ok (.ireturn, 1) := by decide +kernel
theorem dX7_plan_66 : decode cX7_plan 66 = .ok (.aload_n 3, 1) := by decide +kernel
theorem dX7_plan_67 : decode cX7_plan 67 = .ok (.aload_n 0, 1) := by decide +kernel
theorem dX7_plan_68 : decode cX7_plan 68 = .ok (.getfield 63, 3) := by decide +kernel
theorem dX7_plan_71 : decode cX7_plan 71 = .ok (.invokevirtual 174, 3) := by decide +kernel
theorem dX7_plan_74 : decode cX7_plan 74 = .ok (.aload_n 3, 1) := by decide +kernel
theorem dX7_plan_75 : decode cX7_plan 75 = .ok (.getfield 177, 3) := by decide +kernel
theorem dX7_plan_78 : decode cX7_plan 78 = .ok (.ireturn, 1) := by decide +kernel
theorem dX7_way_0 : decode cX7_way 0 = .ok (.aload_n 0, 1) := by decide +kernel
theorem dX7_way_1 : decode cX7_way 1 = .ok (.iload_n 1, 1) := by decide +kernel
theorem dX7_way_2 : decode cX7_way 2 = .ok (.invokevirtual 162, 3) := by decide +kernel
theorem dX7_way_5 : decode cX7_way 5 = .ok (.astore 5, 2) := by decide +kernel
theorem dX7_way_7 : decode cX7_way 7 = .ok (.aload 5, 2) := by decide +kernel
theorem dX7_way_9 : decode cX7_way 9 = .ok (.ifnull 22, 3) := by decide +kernel
theorem dX7_way_12 : decode cX7_way 12 = .ok (.iload_n 2, 1) := by decide +kernel
theorem dX7_way_13 : decode cX7_way 13 = .ok (.iload 4, 2) := by decide +kernel
theorem dX7_way_15 : decode cX7_way 15 = .ok (.invokestatic 284, 3) := by decide +kernel
theorem dX7_way_18 : decode cX7_way 18 = .ok (.ifCond .eq 13, 3) := by decide +kernel
theorem dX7_way_21 : decode cX7_way 21 = .ok (.iload_n 3, 1) := by decide +kernel
theorem dX7_way_22 : decode cX7_way 22 = .ok (.iconst 1, 1) := by decide +kernel
theorem dX7_way_23 : decode cX7_way 23 = .ok (.bipush 120, 2) := by decide +kernel
theorem dX7_way_25 : decode cX7_way 25 = .ok (.invokestatic 180, 3) := by decide +kernel
theorem dX7_way_28 : decode cX7_way 28 = .ok (.ifCond .ne 5, 3) := by decide +kernel
theorem dX7_way_31 : decode cX7_way 31 = .ok (.iconst (-1), 1) := by decide +kernel
theorem dX7_way_32 : decode cX7_way 32 = .ok (.ireturn, 1) := by decide +kernel
theorem dX7_way_33 : decode cX7_way 33 = .ok (.aload 5, 2) := by decide +kernel
theorem dX7_way_35 : decode cX7_way 35 = .ok (.getfield 184, 3) := by decide +kernel
theorem dX7_way_38 : decode cX7_way 38 = .ok (.ifCond .ne 9, 3) := by decide +kernel
theorem dX7_way_41 : decode cX7_way 41 = .ok (.aload_n 0, 1) := by decide +kernel
theorem dX7_way_42 : decode cX7_way 42 = .ok (.iconst 1, 1) := by decide +kernel
theorem dX7_way_43 : decode cX7_way 43 = .ok (.invokevirtual 94, 3) := by decide +kernel
theorem dX7_way_46 : decode cX7_way 46 = .ok (.ireturn, 1) := by decide +kernel
theorem dX7_way_47 : decode cX7_way 47 = .ok (.aload_n 0, 1) := by decide +kernel
theorem dX7_way_48 : decode cX7_way 48 = .ok (.getfield 44, 3) := by decide +kernel
theorem dX7_way_51 : decode cX7_way 51 = .ok (.aload 5, 2) := by decide +kernel
theorem dX7_way_53 : decode cX7_way 53 = .ok (.iload_n 2, 1) := by decide +kernel
theorem dX7_way_54 : decode cX7_way 54 = .ok (.iload_n 3, 1) := by decide +kernel
theorem dX7_way_55 : decode cX7_way 55 = .ok (.iload 4, 2) := by decide +kernel
theorem dX7_way_57 : decode cX7_way 57 = .ok (.invokevirtual 287, 3) := by decide +kernel
theorem dX7_way_60 : decode cX7_way 60 = .ok (.aload_n 0, 1) := by decide +kernel
theorem dX7_way_61 : decode cX7_way 61 = .ok (.aload_n 0, 1) := by decide +kernel
theorem dX7_way_62 : decode cX7_way 62 = .ok (.getfield 44, 3) := by decide +kernel
theorem dX7_way_65 : decode cX7_way 65 = .ok (.invokevirtual 291, 3) := by decide +kernel
theorem dX7_way_68 : decode cX7_way 68 = .ok (.aload_n 0, 1) := by decide +kernel
theorem dX7_way_69 : decode cX7_way 69 = .ok (.getfield 44, 3) := by decide +kernel
theorem dX7_way_72 : decode cX7_way 72 = .ok (.invokevirtual 255, 3) := by decide +kernel
theorem dX7_way_75 : decode cX7_way 75 = .ok (.invokevirtual 117, 3) := by decide +kernel
theorem dX7_way_78 : decode cX7_way 78 = .ok (.ireturn, 1) := by decide +kernel
theorem dX7_often_0 : decode cX7_often 0 = .ok (.aload_n 0, 1) := by decide +kernel
theorem dX7_often_1 : decode cX7_often 1 = .ok (.iload_n 1, 1) := by decide +kernel
theorem dX7_often_2 : decode cX7_often 2 = .ok (.invokevirtual 162, 3) := by decide +kernel
theorem dX7_often_5 : decode cX7_often 5 = .ok (.astore 5, 2) := by decide +kernel
theorem dX7_often_7 : decode cX7_often 7 = .ok (.aload 5, 2) := by decide +kernel
theorem dX7_often_9 : decode cX7_often 9 = .ok (.ifnull 22, 3) := by decide +kernel
theorem dX7_often_12 : decode cX7_often 12 = .ok (.iload_n 2, 1) := by decide +kernel
theorem dX7_often_13 : decode cX7_often 13 = .ok (.iload 4, 2) := by decide +kernel
theorem dX7_often_15 : decode cX7_often 15 = .ok (.invokestatic 284, 3) := by decide +kernel
theorem dX7_often_18 : decode cX7_often 18 = .ok (.ifCond .eq 13, 3) := by decide +kernel
theorem dX7_often_21 : decode cX7_often 21 = .ok (.iload_n 3, 1) := by decide +kernel
theorem dX7_often_22 : decode cX7_often 22 = .ok (.iconst 1, 1) := by decide +kernel
theorem dX7_often_23 : decode cX7_often 23 = .ok (.bipush 120, 2) := by decide +kernel
theorem dX7_often_25 : decode cX7_often 25 = .ok (.invokestatic 180, 3) := by decide +kernel
theorem dX7_often_28 : decode cX7_often 28 = .ok (.ifCond .ne 5, 3) := by decide +kernel
theorem dX7_often_31 : decode cX7_often 31 = .ok (.iconst (-1), 1) := by decide +kernel
theorem dX7_often_32 : decode cX7_often 32 = .ok (.ireturn, 1) := by decide +kernel
theorem dX7_often_33 : decode cX7_often 33 = .ok (.aload 5, 2) := by decide +kernel
theorem dX7_often_35 : decode cX7_often 35 = .ok (.getfield 184, 3) := by decide +kernel
theorem dX7_often_38 : decode cX7_often 38 = .ok (.ifCond .ne 9, 3) := by decide +kernel
theorem dX7_often_41 : decode cX7_often 41 = .ok (.aload_n 0, 1) := by decide +kernel
theorem dX7_often_42 : decode cX7_often 42 = .ok (.iconst 1, 1) := by decide +kernel
theorem dX7_often_43 : decode cX7_often 43 = .ok (.invokevirtual 94, 3) := by decide +kernel
theorem dX7_often_46 : decode cX7_often 46 = .ok (.ireturn, 1) := by decide +kernel
theorem dX7_often_47 : decode cX7_often 47 = .ok (.aload_n 0, 1) := by decide +kernel
theorem dX7_often_48 : decode cX7_often 48 = .ok (.getfield 44, 3) := by decide +kernel
theorem dX7_often_51 : decode cX7_often 51 = .ok (.aload 5, 2) := by decide +kernel
theorem dX7_often_53 : decode cX7_often 53 = .ok (.iload_n 2, 1) := by decide +kernel
theorem dX7_often_54 : decode cX7_often 54 = .ok (.iload_n 3, 1) := by decide +kernel
theorem dX7_often_55 : decode cX7_often 55 = .ok (.iload 4, 2) := by decide +kernel
theorem dX7_often_57 : decode cX7_often 57 = .ok (.invokevirtual 287, 3) := by decide +kernel
theorem dX7_often_60 : decode cX7_often 60 = .ok (.aload_n 0, 1) := by decide +kernel
theorem dX7_often_61 : decode cX7_often 61 = .ok (.getfield 47, 3) := by decide +kernel
theorem dX7_often_64 : decode cX7_often 64 = .ok (.aload 5, 2) := by decide +kernel
theorem dX7_often_66 : decode cX7_often 66 = .ok (.iload_n 2, 1) := by decide +kernel
theorem dX7_often_67 : decode cX7_often 67 = .ok (.iload_n 3, 1) := by decide +kernel
theorem dX7_often_68 : decode cX7_often 68 = .ok (.iload_n 3, 1) := by decide +kernel
theorem dX7_often_69 : decode cX7_often 69 = .ok (.iconst 1, 1) := by decide +kernel
theorem dX7_often_70 : decode cX7_often 70 = .ok (.iadd, 1) := by decide +kernel
theorem dX7_often_71 : decode cX7_often 71 = .ok (.iconst 2, 1) := by decide +kernel
theorem dX7_often_72 : decode cX7_often 72 = .ok (.idiv, 1) := by decide +kernel
theorem dX7_often_73 : decode cX7_often 73 = .ok (.invokevirtual 287, 3) := by decide +kernel
theorem dX7_often_76 : decode cX7_often 76 = .ok (.aload_n 0, 1) := by decide +kernel
theorem dX7_often_77 : decode cX7_often 77 = .ok (.bipush 100, 2) := by decide +kernel
theorem dX7_often_79 : decode cX7_often 79 = .ok (.aload_n 0, 1) := by decide +kernel
theorem dX7_often_80 : decode cX7_often 80 = .ok (.getfield 44, 3) := by decide +kernel
theorem dX7_often_83 : decode cX7_often 83 = .ok (.invokevirtual 255, 3) := by decide +kernel
theorem dX7_often_86 : decode cX7_often 86 = .ok (.iadd, 1) := by decide +kernel
theorem dX7_often_87 : decode cX7_often 87 = .ok (.aload_n 0, 1) := by decide +kernel
theorem dX7_often_88 : decode cX7_often 88 = .ok (.getfield 47, 3) := by decide +kernel
theorem dX7_often_91 : decode cX7_often 91 = .ok (.invokevirtual 255, 3) := by decide +kernel
theorem dX7_often_94 : decode cX7_often 94 = .ok (.isub, 1) := by decide +kernel
theorem dX7_often_95 : decode cX7_often 95 = .ok (.aload_n 0, 1) := by decide +kernel
theorem dX7_often_96 : decode cX7_often 96 = .ok (.getfield 44, 3) := by decide +kernel
theorem dX7_often_99 : decode cX7_often 99 = .ok (.invokevirtual 294, 3) := by decide +kernel
theorem dX7_often_102 : decode cX7_often 102 = .ok (.aload_n 0, 1) := by decide +kernel
theorem dX7_often_103 : decode cX7_often 103 = .ok (.getfield 47, 3) := by decide +kernel
theorem dX7_often_106 : decode cX7_often 106 = .ok (.invokevirtual 294, 3) := by decide +kernel
theorem dX7_often_109 : decode cX7_often 109 = .ok (.isub, 1) := by decide +kernel
theorem dX7_often_110 : decode cX7_often 110 = .ok (.invokevirtual 117, 3) := by decide +kernel
theorem dX7_often_113 : decode cX7_often 113 = .ok (.ireturn, 1) := by decide +kernel
theorem dX7_turns_0 : decode cX7_turns 0 = .ok (.aload_n 0, 1) := by decide +kernel
theorem dX7_turns_1 : decode cX7_turns 1 = .ok (.iload_n 1, 1) := by decide +kernel
theorem dX7_turns_2 : decode cX7_turns 2 = .ok (.invokevirtual 162, 3) := by decide +kernel
theorem dX7_turns_5 : decode cX7_turns 5 = .ok (.astore 4, 2) := by decide +kernel
theorem dX7_turns_7 : decode cX7_turns 7 = .ok (.aload 4, 2) := by decide +kernel
theorem dX7_turns_9 : decode cX7_turns 9 = .ok (.ifnull 21, 3) := by decide +kernel
theorem dX7_turns_12 : decode cX7_turns 12 = .ok (.iload_n 2, 1) := by decide +kernel
theorem dX7_turns_13 : decode cX7_turns 13 = .ok (.iconst 1, 1) := by decide +kernel
theorem dX7_turns_14 : decode cX7_turns 14 = .ok (.invokestatic 284, 3) := by decide +kernel
theorem dX7_turns_17 : decode cX7_turns 17 = .ok (.ifCond .eq 13, 3) := by decide +kernel
theorem dX7_turns_20 : decode cX7_turns 20 = .ok (.iload_n 3, 1) := by decide +kernel
theorem dX7_turns_21 : decode cX7_turns 21 = .ok (.iconst 1, 1) := by decide +kernel
theorem dX7_turns_22 : decode cX7_turns 22 = .ok (.bipush 120, 2) := by decide +kernel
theorem dX7_turns_24 : decode cX7_turns 24 = .ok (.invokestatic 180, 3) := by decide +kernel
theorem dX7_turns_27 : decode cX7_turns 27 = .ok (.ifCond .ne 5, 3) := by decide +kernel
theorem dX7_turns_30 : decode cX7_turns 30 = .ok (.iconst (-1), 1) := by decide +kernel
theorem dX7_turns_31 : decode cX7_turns 31 = .ok (.ireturn, 1) := by decide +kernel
theorem dX7_turns_32 : decode cX7_turns 32 = .ok (.aload 4, 2) := by decide +kernel
theorem dX7_turns_34 : decode cX7_turns 34 = .ok (.getfield 184, 3) := by decide +kernel
theorem dX7_turns_37 : decode cX7_turns 37 = .ok (.ifCond .ne 9, 3) := by decide +kernel
theorem dX7_turns_40 : decode cX7_turns 40 = .ok (.aload_n 0, 1) := by decide +kernel
theorem dX7_turns_41 : decode cX7_turns 41 = .ok (.iconst 1, 1) := by decide +kernel
theorem dX7_turns_42 : decode cX7_turns 42 = .ok (.invokevirtual 94, 3) := by decide +kernel
theorem dX7_turns_45 : decode cX7_turns 45 = .ok (.ireturn, 1) := by decide +kernel
theorem dX7_turns_46 : decode cX7_turns 46 = .ok (.iconst 1, 1) := by decide +kernel
theorem dX7_turns_47 : decode cX7_turns 47 = .ok (.istore 5, 2) := by decide +kernel
theorem dX7_turns_49 : decode cX7_turns 49 = .ok (.iconst (-1), 1) := by decide +kernel
theorem dX7_turns_50 : decode cX7_turns 50 = .ok (.istore 6, 2) := by decide +kernel
theorem dX7_turns_52 : decode cX7_turns 52 = .ok (.iconst 1, 1) := by decide +kernel
theorem dX7_turns_53 : decode cX7_turns 53 = .ok (.istore 7, 2) := by decide +kernel
theorem dX7_turns_55 : decode cX7_turns 55 = .ok (.iload 7, 2) := by decide +kernel
theorem dX7_turns_57 : decode cX7_turns 57 = .ok (.bipush 60, 2) := by decide +kernel
theorem dX7_turns_59 : decode cX7_turns 59 = .ok (.if_icmp .gt 47, 3) := by decide +kernel
theorem dX7_turns_62 : decode cX7_turns 62 = .ok (.aload_n 0, 1) := by decide +kernel
theorem dX7_turns_63 : decode cX7_turns 63 = .ok (.getfield 44, 3) := by decide +kernel
theorem dX7_turns_66 : decode cX7_turns 66 = .ok (.aload 4, 2) := by decide +kernel
theorem dX7_turns_68 : decode cX7_turns 68 = .ok (.iload_n 2, 1) := by decide +kernel
theorem dX7_turns_69 : decode cX7_turns 69 = .ok (.iload_n 3, 1) := by decide +kernel
theorem dX7_turns_70 : decode cX7_turns 70 = .ok (.iload 7, 2) := by decide +kernel
theorem dX7_turns_72 : decode cX7_turns 72 = .ok (.invokevirtual 287, 3) := by decide +kernel
theorem dX7_turns_75 : decode cX7_turns 75 = .ok (.aload_n 0, 1) := by decide +kernel
theorem dX7_turns_76 : decode cX7_turns 76 = .ok (.getfield 44, 3) := by decide +kernel
theorem dX7_turns_79 : decode cX7_turns 79 = .ok (.invokevirtual 255, 3) := by decide +kernel
theorem dX7_turns_82 : decode cX7_turns 82 = .ok (.iload 6, 2) := by decide +kernel
theorem dX7_turns_84 : decode cX7_turns 84 = .ok (.if_icmp .le 16, 3) := by decide +kernel
theorem dX7_turns_87 : decode cX7_turns 87 = .ok (.aload_n 0, 1) := by decide +kernel
theorem dX7_turns_88 : decode cX7_turns 88 = .ok (.getfield 44, 3) := by decide +kernel
theorem dX7_turns_91 : decode cX7_turns 91 = .ok (.invokevirtual 255, 3) := by decide +kernel
theorem dX7_turns_94 : decode cX7_turns 94 = .ok (.istore 6, 2) := by decide +kernel
theorem dX7_turns_96 : decode cX7_turns 96 = .ok (.iload 7, 2) := by decide +kernel
theorem dX7_turns_98 : decode cX7_turns 98 = .ok (.istore 5, 2) := by decide +kernel
theorem dX7_turns_100 : decode cX7_turns 100 = .ok (.iinc 7 1, 3) := by decide +kernel
theorem dX7_turns_103 : decode cX7_turns 103 = .ok (.goto (-48), 3) := by decide +kernel
theorem dX7_turns_106 : decode cX7_turns 106 = .ok (.aload_n 0, 1) := by decide +kernel
theorem dX7_turns_107 : decode cX7_turns 107 = .ok (.iload 5, 2) := by decide +kernel
theorem dX7_turns_109 : decode cX7_turns 109 = .ok (.iload 6, 2) := by decide +kernel
theorem dX7_turns_111 : decode cX7_turns 111 = .ok (.invokevirtual 117, 3) := by decide +kernel
theorem dX7_turns_114 : decode cX7_turns 114 = .ok (.ireturn, 1) := by decide +kernel
theorem dX7_rest_0 : decode cX7_rest 0 = .ok (.aload_n 0, 1) := by decide +kernel
theorem dX7_rest_1 : decode cX7_rest 1 = .ok (.iload_n 1, 1) := by decide +kernel
theorem dX7_rest_2 : decode cX7_rest 2 = .ok (.invokevirtual 162, 3) := by decide +kernel
theorem dX7_rest_5 : decode cX7_rest 5 = .ok (.astore_n 3, 1) := by decide +kernel
theorem dX7_rest_6 : decode cX7_rest 6 = .ok (.aload_n 0, 1) := by decide +kernel
theorem dX7_rest_7 : decode cX7_rest 7 = .ok (.iload_n 2, 1) := by decide +kernel
theorem dX7_rest_8 : decode cX7_rest 8 = .ok (.invokevirtual 170, 3) := by decide +kernel
theorem dX7_rest_11 : decode cX7_rest 11 = .ok (.astore 4, 2) := by decide +kernel
theorem dX7_rest_13 : decode cX7_rest 13 = .ok (.aload_n 3, 1) := by decide +kernel
theorem dX7_rest_14 : decode cX7_rest 14 = .ok (.ifnull 8, 3) := by decide +kernel
theorem dX7_rest_17 : decode cX7_rest 17 = .ok (.aload 4, 2) := by decide +kernel
theorem dX7_rest_19 : decode cX7_rest 19 = .ok (.ifnonnull 5, 3) := by decide +kernel
theorem dX7_rest_22 : decode cX7_rest 22 = .ok (.iconst (-1), 1) := by decide +kernel
theorem dX7_rest_23 : decode cX7_rest 23 = .ok (.ireturn, 1) := by decide +kernel
theorem dX7_rest_24 : decode cX7_rest 24 = .ok (.aload_n 3, 1) := by decide +kernel
theorem dX7_rest_25 : decode cX7_rest 25 = .ok (.getfield 184, 3) := by decide +kernel
theorem dX7_rest_28 : decode cX7_rest 28 = .ok (.ifCond .eq 11, 3) := by decide +kernel
theorem dX7_rest_31 : decode cX7_rest 31 = .ok (.aload 4, 2) := by decide +kernel
theorem dX7_rest_33 : decode cX7_rest 33 = .ok (.getfield 190, 3) := by decide +kernel
theorem dX7_rest_36 : decode cX7_rest 36 = .ok (.ifCond .ne 9, 3) := by decide +kernel
theorem dX7_rest_39 : decode cX7_rest 39 = .ok (.aload_n 0, 1) := by decide +kernel
theorem dX7_rest_40 : decode cX7_rest 40 = .ok (.iconst 1, 1) := by decide +kernel
theorem dX7_rest_41 : decode cX7_rest 41 = .ok (.invokevirtual 94, 3) := by decide +kernel
theorem dX7_rest_44 : decode cX7_rest 44 = .ok (.ireturn, 1) := by decide +kernel
theorem dX7_rest_45 : decode cX7_rest 45 = .ok (.aload_n 0, 1) := by decide +kernel
theorem dX7_rest_46 : decode cX7_rest 46 = .ok (.getfield 44, 3) := by decide +kernel
theorem dX7_rest_49 : decode cX7_rest 49 = .ok (.aload_n 3, 1) := by decide +kernel
theorem dX7_rest_50 : decode cX7_rest 50 = .ok (.aload_n 3, 1) := by decide +kernel
theorem dX7_rest_51 : decode cX7_rest 51 = .ok (.getfield 198, 3) := by decide +kernel
theorem dX7_rest_54 : decode cX7_rest 54 = .ok (.aload_n 3, 1) := by decide +kernel
theorem dX7_rest_55 : decode cX7_rest 55 = .ok (.getfield 201, 3) := by decide +kernel
theorem dX7_rest_58 : decode cX7_rest 58 = .ok (.aload 4, 2) := by decide +kernel
theorem dX7_rest_60 : decode cX7_rest 60 = .ok (.invokevirtual 309, 3) := by decide +kernel
theorem dX7_rest_63 : decode cX7_rest 63 = .ok (.iconst 0, 1) := by decide +kernel
theorem dX7_rest_64 : decode cX7_rest 64 = .ok (.istore 5, 2) := by decide +kernel
theorem dX7_rest_66 : decode cX7_rest 66 = .ok (.aload_n 0, 1) := by decide +kernel
theorem dX7_rest_67 : decode cX7_rest 67 = .ok (.getfield 44, 3) := by decide +kernel
theorem dX7_rest_70 : decode cX7_rest 70 = .ok (.invokevirtual 261, 3) := by decide +kernel
theorem dX7_rest_73 : decode cX7_rest 73 = .ok (.istore 6, 2) := by decide +kernel
theorem dX7_rest_75 : decode cX7_rest 75 = .ok (.iconst 1, 1) := by decide +kernel
theorem dX7_rest_76 : decode cX7_rest 76 = .ok (.istore 7, 2) := by decide +kernel
theorem dX7_rest_78 : decode cX7_rest 78 = .ok (.iload 7, 2) := by decide +kernel
theorem dX7_rest_80 : decode cX7_rest 80 = .ok (.bipush 30, 2) := by decide +kernel
theorem dX7_rest_82 : decode cX7_rest 82 = .ok (.if_icmp .gt 43, 3) := by decide +kernel
theorem dX7_rest_85 : decode cX7_rest 85 = .ok (.aload_n 0, 1) := by decide +kernel
theorem dX7_rest_86 : decode cX7_rest 86 = .ok (.getfield 44, 3) := by decide +kernel
theorem dX7_rest_89 : decode cX7_rest 89 = .ok (.iconst 4, 1) := by decide +kernel
theorem dX7_rest_90 : decode cX7_rest 90 = .ok (.iconst 0, 1) := by decide +kernel
theorem dX7_rest_91 : decode cX7_rest 91 = .ok (.invokevirtual 267, 3) := by decide +kernel
theorem dX7_rest_94 : decode cX7_rest 94 = .ok (.aload_n 0, 1) := by decide +kernel
theorem dX7_rest_95 : decode cX7_rest 95 = .ok (.getfield 44, 3) := by decide +kernel
theorem dX7_rest_98 : decode cX7_rest 98 = .ok (.invokevirtual 261, 3) := by decide +kernel
theorem dX7_rest_101 : decode cX7_rest 101 = .ok (.iload 6, 2) := by decide +kernel
theorem dX7_rest_103 : decode cX7_rest 103 = .ok (.if_icmp .ge 16, 3) := by decide +kernel
theorem dX7_rest_106 : decode cX7_rest 106 = .ok (.aload_n 0, 1) := by decide +kernel
theorem dX7_rest_107 : decode cX7_rest 107 = .ok (.getfield 44, 3) := by decide +kernel
theorem dX7_rest_110 : decode cX7_rest 110 = .ok (.invokevirtual 261, 3) := by decide +kernel
theorem dX7_rest_113 : decode cX7_rest 113 = .ok (.istore 6, 2) := by decide +kernel
theorem dX7_rest_115 : decode cX7_rest 115 = .ok (.iload 7, 2) := by decide +kernel
theorem dX7_rest_117 : decode cX7_rest 117 = .ok (.istore 5, 2) := by decide +kernel
theorem dX7_rest_119 : decode cX7_rest 119 = .ok (.iinc 7 1, 3) := by decide +kernel
theorem dX7_rest_122 : decode cX7_rest 122 = .ok (.goto (-44), 3) := by decide +kernel
theorem dX7_rest_125 : decode cX7_rest 125 = .ok (.aload_n 0, 1) := by decide +kernel
theorem dX7_rest_126 : decode cX7_rest 126 = .ok (.iload 5, 2) := by decide +kernel
theorem dX7_rest_128 : decode cX7_rest 128 = .ok (.iload 6, 2) := by decide +kernel
theorem dX7_rest_130 : decode cX7_rest 130 = .ok (.invokevirtual 117, 3) := by decide +kernel
theorem dX7_rest_133 : decode cX7_rest 133 = .ok (.ireturn, 1) := by decide +kernel
theorem dX7_salt_0 : decode cX7_salt 0 = .ok (.aload_n 0, 1) := by decide +kernel
theorem dX7_salt_1 : decode cX7_salt 1 = .ok (.iload_n 1, 1) := by decide +kernel
theorem dX7_salt_2 : decode cX7_salt 2 = .ok (.invokevirtual 162, 3) := by decide +kernel
theorem dX7_salt_5 : decode cX7_salt 5 = .ok (.astore_n 3, 1) := by decide +kernel
theorem dX7_salt_6 : decode cX7_salt 6 = .ok (.aload_n 0, 1) := by decide +kernel
theorem dX7_salt_7 : decode cX7_salt 7 = .ok (.iload_n 2, 1) := by decide +kernel
theorem dX7_salt_8 : decode cX7_salt 8 = .ok (.invokevirtual 170, 3) := by decide +kernel
theorem dX7_salt_11 : decode cX7_salt 11 = .ok (.astore 4, 2) := by decide +kernel
theorem dX7_salt_13 : decode cX7_salt 13 = .ok (.aload_n 3, 1) := by decide +kernel
theorem dX7_salt_14 : decode cX7_salt 14 = .ok (.ifnull 8, 3) := by decide +kernel
theorem dX7_salt_17 : decode cX7_salt 17 = .ok (.aload 4, 2) := by decide +kernel
theorem dX7_salt_19 : decode cX7_salt 19 = .ok (.ifnonnull 5, 3) := by decide +kernel
theorem dX7_salt_22 : decode cX7_salt 22 = .ok (.iconst (-1), 1) := by decide +kernel
theorem dX7_salt_23 : decode cX7_salt 23 = .ok (.ireturn, 1) := by decide +kernel
theorem dX7_salt_24 : decode cX7_salt 24 = .ok (.aload_n 3, 1) := by decide +kernel
theorem dX7_salt_25 : decode cX7_salt 25 = .ok (.getfield 184, 3) := by decide +kernel
theorem dX7_salt_28 : decode cX7_salt 28 = .ok (.ifCond .eq 11, 3) := by decide +kernel
theorem dX7_salt_31 : decode cX7_salt 31 = .ok (.aload 4, 2) := by decide +kernel
theorem dX7_salt_33 : decode cX7_salt 33 = .ok (.getfield 190, 3) := by decide +kernel
theorem dX7_salt_36 : decode cX7_salt 36 = .ok (.ifCond .ne 9, 3) := by decide +kernel
theorem dX7_salt_39 : decode cX7_salt 39 = .ok (.aload_n 0, 1) := by decide +kernel
theorem dX7_salt_40 : decode cX7_salt 40 = .ok (.iconst 1, 1) := by decide +kernel
theorem dX7_salt_41 : decode cX7_salt 41 = .ok (.invokevirtual 94, 3) := by decide +kernel
theorem dX7_salt_44 : decode cX7_salt 44 = .ok (.ireturn, 1) := by decide +kernel
theorem dX7_salt_45 : decode cX7_salt 45 = .ok (.iconst 0, 1) := by decide +kernel
theorem dX7_salt_46 : decode cX7_salt 46 = .ok (.istore 5, 2) := by decide +kernel
theorem dX7_salt_48 : decode cX7_salt 48 = .ok (.iconst (-1), 1) := by decide +kernel
theorem dX7_salt_49 : decode cX7_salt 49 = .ok (.istore 6, 2) := by decide +kernel
theorem dX7_salt_51 : decode cX7_salt 51 = .ok (.iconst 0, 1) := by decide +kernel
theorem dX7_salt_52 : decode cX7_salt 52 = .ok (.istore 7, 2) := by decide +kernel
theorem dX7_salt_54 : decode cX7_salt 54 = .ok (.iload 7, 2) := by decide +kernel
theorem dX7_salt_56 : decode cX7_salt 56 = .ok (.bipush 60, 2) := by decide +kernel
theorem dX7_salt_58 : decode cX7_salt 58 = .ok (.if_icmp .gt 50, 3) := by decide +kernel
theorem dX7_salt_61 : decode cX7_salt 61 = .ok (.aload_n 0, 1) := by decide +kernel
theorem dX7_salt_62 : decode cX7_salt 62 = .ok (.getfield 44, 3) := by decide +kernel
theorem dX7_salt_65 : decode cX7_salt 65 = .ok (.aload_n 3, 1) := by decide +kernel
theorem dX7_salt_66 : decode cX7_salt 66 = .ok (.aload_n 3, 1) := by decide +kernel
theorem dX7_salt_67 : decode cX7_salt 67 = .ok (.getfield 198, 3) := by decide +kernel
theorem dX7_salt_70 : decode cX7_salt 70 = .ok (.iload 7, 2) := by decide +kernel
theorem dX7_salt_72 : decode cX7_salt 72 = .ok (.aload 4, 2) := by decide +kernel
theorem dX7_salt_74 : decode cX7_salt 74 = .ok (.invokevirtual 309, 3) := by decide +kernel
theorem dX7_salt_77 : decode cX7_salt 77 = .ok (.aload_n 0, 1) := by decide +kernel
theorem dX7_salt_78 : decode cX7_salt 78 = .ok (.getfield 44, 3) := by decide +kernel
theorem dX7_salt_81 : decode cX7_salt 81 = .ok (.invokevirtual 291, 3) := by decide +kernel
theorem dX7_salt_84 : decode cX7_salt 84 = .ok (.iload 6, 2) := by decide +kernel
theorem dX7_salt_86 : decode cX7_salt 86 = .ok (.if_icmp .le 16, 3) := by decide +kernel
theorem dX7_salt_89 : decode cX7_salt 89 = .ok (.aload_n 0, 1) := by decide +kernel
theorem dX7_salt_90 : decode cX7_salt 90 = .ok (.getfield 44, 3) := by decide +kernel
theorem dX7_salt_93 : decode cX7_salt 93 = .ok (.invokevirtual 291, 3) := by decide +kernel
theorem dX7_salt_96 : decode cX7_salt 96 = .ok (.istore 6, 2) := by decide +kernel
theorem dX7_salt_98 : decode cX7_salt 98 = .ok (.iload 7, 2) := by decide +kernel
theorem dX7_salt_100 : decode cX7_salt 100 = .ok (.istore 5, 2) := by decide +kernel
theorem dX7_salt_102 : decode cX7_salt 102 = .ok (.iinc 7 1, 3) := by decide +kernel
theorem dX7_salt_105 : decode cX7_salt 105 = .ok (.goto (-51), 3) := by decide +kernel
theorem dX7_salt_108 : decode cX7_salt 108 = .ok (.aload_n 0, 1) := by decide +kernel
theorem dX7_salt_109 : decode cX7_salt 109 = .ok (.iload 5, 2) := by decide +kernel
theorem dX7_salt_111 : decode cX7_salt 111 = .ok (.iload 6, 2) := by decide +kernel
theorem dX7_salt_113 : decode cX7_salt 113 = .ok (.invokevirtual 117, 3) := by decide +kernel
theorem dX7_salt_116 : decode cX7_salt 116 = .ok (.ireturn, 1) := by decide +kernel
theorem dX7_thick_0 : decode cX7_thick 0 = .ok (.aload_n 0, 1) := by decide +kernel
theorem dX7_thick_1 : decode cX7_thick 1 = .ok (.iload_n 1, 1) := by decide +kernel
theorem dX7_thick_2 : decode cX7_thick 2 = .ok (.invokevirtual 162, 3) := by decide +kernel
theorem dX7_thick_5 : decode cX7_thick 5 = .ok (.astore 5, 2) := by decide +kernel
theorem dX7_thick_7 : decode cX7_thick 7 = .ok (.aload_n 0, 1) := by decide +kernel
theorem dX7_thick_8 : decode cX7_thick 8 = .ok (.iload_n 2, 1) := by decide +kernel
theorem dX7_thick_9 : decode cX7_thick 9 = .ok (.invokevirtual 170, 3) := by decide +kernel
theorem dX7_thick_12 : decode cX7_thick 12 = .ok (.astore 6, 2) := by decide +kernel
theorem dX7_thick_14 : decode cX7_thick 14 = .ok (.aload 5, 2) := by decide +kernel
theorem dX7_thick_16 : decode cX7_thick 16 = .ok (.ifnull 17, 3) := by decide +kernel
theorem dX7_thick_19 : decode cX7_thick 19 = .ok (.aload 6, 2) := by decide +kernel
theorem dX7_thick_21 : decode cX7_thick 21 = .ok (.ifnull 12, 3) := by decide +kernel
theorem dX7_thick_24 : decode cX7_thick 24 = .ok (.iload_n 3, 1) := by decide +kernel
theorem dX7_thick_25 : decode cX7_thick 25 = .ok (.iload 4, 2) := by decide +kernel
theorem dX7_thick_27 : decode cX7_thick 27 = .ok (.invokestatic 243, 3) := by decide +kernel
theorem dX7_thick_30 : decode cX7_thick 30 = .ok (.ifCond .ne 5, 3) := by decide +kernel
theorem dX7_thick_33 : decode cX7_thick 33 = .ok (.iconst (-1), 1) := by decide +kernel
theorem dX7_thick_34 : decode cX7_thick 34 = .ok (.ireturn, 1) := by decide +kernel
theorem dX7_thick_35 : decode cX7_thick 35 = .ok (.aload 5, 2) := by decide +kernel
theorem dX7_thick_37 : decode cX7_thick 37 = .ok (.getfield 184, 3) := by decide +kernel
theorem dX7_thick_40 : decode cX7_thick 40 = .ok (.ifCond .eq 11, 3) := by decide +kernel
theorem dX7_thick_43 : decode cX7_thick 43 = .ok (.aload 6, 2) := by decide +kernel
theorem dX7_thick_45 : decode cX7_thick 45 = .ok (.getfield 190, 3) := by decide +kernel
theorem dX7_thick_48 : decode cX7_thick 48 = .ok (.ifCond .ne 9, 3) := by decide +kernel
theorem dX7_thick_51 : decode cX7_thick 51 = .ok (.aload_n 0, 1) := by decide +kernel
theorem dX7_thick_52 : decode cX7_thick 52 = .ok (.iconst 1, 1) := by decide +kernel
theorem dX7_thick_53 : decode cX7_thick 53 = .ok (.invokevirtual 94, 3) := by decide +kernel
theorem dX7_thick_56 : decode cX7_thick 56 = .ok (.ireturn, 1) := by decide +kernel
theorem dX7_thick_57 : decode cX7_thick 57 = .ok (.iconst 0, 1) := by decide +kernel
theorem dX7_thick_58 : decode cX7_thick 58 = .ok (.istore 7, 2) := by decide +kernel
theorem dX7_thick_60 : decode cX7_thick 60 = .ok (.bipush (-9), 2) := by decide +kernel
theorem dX7_thick_62 : decode cX7_thick 62 = .ok (.istore 8, 2) := by decide +kernel
theorem dX7_thick_64 : decode cX7_thick 64 = .ok (.iconst 3, 1) := by decide +kernel
theorem dX7_thick_65 : decode cX7_thick 65 = .ok (.istore 9, 2) := by decide +kernel
theorem dX7_thick_67 : decode cX7_thick 67 = .ok (.iload 9, 2) := by decide +kernel
theorem dX7_thick_69 : decode cX7_thick 69 = .ok (.bipush 20, 2) := by decide +kernel
theorem dX7_thick_71 : decode cX7_thick 71 = .ok (.if_icmp .gt 62, 3) := by decide +kernel
theorem dX7_thick_74 : decode cX7_thick 74 = .ok (.aload_n 0, 1) := by decide +kernel
theorem dX7_thick_75 : decode cX7_thick 75 = .ok (.getfield 44, 3) := by decide +kernel
theorem dX7_thick_78 : decode cX7_thick 78 = .ok (.aload 5, 2) := by decide +kernel
theorem dX7_thick_80 : decode cX7_thick 80 = .ok (.iload 9, 2) := by decide +kernel
theorem dX7_thick_82 : decode cX7_thick 82 = .ok (.aload 5, 2) := by decide +kernel
theorem dX7_thick_84 : decode cX7_thick 84 = .ok (.getfield 201, 3) := by decide +kernel
theorem dX7_thick_87 : decode cX7_thick 87 = .ok (.aload 6, 2) := by decide +kernel
theorem dX7_thick_89 : decode cX7_thick 89 = .ok (.invokevirtual 309, 3) := by decide +kernel
theorem dX7_thick_92 : decode cX7_thick 92 = .ok (.aload_n 0, 1) := by decide +kernel
theorem dX7_thick_93 : decode cX7_thick 93 = .ok (.getfield 44, 3) := by decide +kernel
theorem dX7_thick_96 : decode cX7_thick 96 = .ok (.invokevirtual 294, 3) := by decide +kernel
theorem dX7_thick_99 : decode cX7_thick 99 = .ok (.iload_n 3, 1) := by decide +kernel
theorem dX7_thick_100 : decode cX7_thick 100 = .ok (.iload 4, 2) := by decide +kernel
theorem dX7_thick_102 : decode cX7_thick 102 = .ok (.invokestatic 180, 3) := by decide +kernel
theorem dX7_thick_105 : decode cX7_thick 105 = .ok (.ifCond .eq 22, 3) := by decide +kernel
theorem dX7_thick_108 : decode cX7_thick 108 = .ok (.iinc 7 1, 3) := by decide +kernel
theorem dX7_thick_111 : decode cX7_thick 111 = .ok (.iload 8, 2) := by decide +kernel
theorem dX7_thick_113 : decode cX7_thick 113 = .ok (.bipush (-9), 2) := by decide +kernel
theorem dX7_thick_115 : decode cX7_thick 115 = .ok (.if_icmp .ne 8, 3) := by decide +kernel
theorem dX7_thick_118 : decode cX7_thick 118 = .ok (.iload 9, 2) := by decide +kernel
theorem dX7_thick_120 : decode cX7_thick 120 = .ok (.goto 5, 3) := by decide +kernel
theorem dX7_thick_123 : decode cX7_thick 123 = .ok (.iload 8, 2) := by decide +kernel
theorem dX7_thick_125 : decode cX7_thick 125 = .ok (.istore 8, 2) := by decide +kernel
theorem dX7_thick_127 : decode cX7_thick 127 = .ok (.iinc 9 1, 3) := by decide +kernel
theorem dX7_thick_130 : decode cX7_thick 130 = .ok (.goto (-63), 3) := by decide +kernel
theorem dX7_thick_133 : decode cX7_thick 133 = .ok (.aload_n 0, 1) := by decide +kernel
theorem dX7_thick_134 : decode cX7_thick 134 = .ok (.iload 7, 2) := by decide +kernel
theorem dX7_thick_136 : decode cX7_thick 136 = .ok (.iload 8, 2) := by decide +kernel
theorem dX7_thick_138 : decode cX7_thick 138 = .ok (.invokevirtual 117, 3) := by decide +kernel
theorem dX7_thick_141 : decode cX7_thick 141 = .ok (.ireturn, 1) := by decide +kernel
theorem dX7_same_0 : decode cX7_same 0 = .ok (.aload_n 0, 1) := by decide +kernel
theorem dX7_same_1 : decode cX7_same 1 = .ok (.iload_n 1, 1) := by decide +kernel
theorem dX7_same_2 : decode cX7_same 2 = .ok (.invokevirtual 162, 3) := by decide +kernel
theorem dX7_same_5 : decode cX7_same 5 = .ok (.astore 7, 2) := by decide +kernel
theorem dX7_same_7 : decode cX7_same 7 = .ok (.aload_n 0, 1) := by decide +kernel
theorem dX7_same_8 : decode cX7_same 8 = .ok (.iload_n 2, 1) := by decide +kernel
theorem dX7_same_9 : decode cX7_same 9 = .ok (.invokevirtual 162, 3) := by decide +kernel
theorem dX7_same_12 : decode cX7_same 12 = .ok (.astore 8, 2) := by decide +kernel
theorem dX7_same_14 : decode cX7_same 14 = .ok (.aload 7, 2) := by decide +kernel
theorem dX7_same_16 : decode cX7_same 16 = .ok (.ifnull 41, 3) := by decide +kernel
theorem dX7_same_19 : decode cX7_same 19 = .ok (.aload 8, 2) := by decide +kernel
theorem dX7_same_21 : decode cX7_same 21 = .ok (.ifnull 36, 3) := by decide +kernel
theorem dX7_same_24 : decode cX7_same 24 = .ok (.iload_n 3, 1) := by decide +kernel
theorem dX7_same_25 : decode cX7_same 25 = .ok (.iload 4, 2) := by decide +kernel
theorem dX7_same_27 : decode cX7_same 27 = .ok (.invokestatic 284, 3) := by decide +kernel
theorem dX7_same_30 : decode cX7_same 30 = .ok (.ifCond .eq 27, 3) := by decide +kernel
theorem dX7_same_33 : decode cX7_same 33 = .ok (.iload 5, 2) := by decide +kernel
theorem dX7_same_35 : decode cX7_same 35 = .ok (.iconst 0, 1) := by decide +kernel
theorem dX7_same_36 : decode cX7_same 36 = .ok (.sipush 2000, 3) := by decide +kernel
theorem dX7_same_39 : decode cX7_same 39 = .ok (.invokestatic 180, 3) := by decide +kernel
theorem dX7_same_42 : decode cX7_same 42 = .ok (.ifCond .eq 15, 3) := by decide +kernel
theorem dX7_same_45 : decode cX7_same 45 = .ok (.iload 6, 2) := by decide +kernel
theorem dX7_same_47 : decode cX7_same 47 = .ok (.iconst 0, 1) := by decide +kernel
theorem dX7_same_48 : decode cX7_same 48 = .ok (.sipush 2000, 3) := by decide +kernel
theorem dX7_same_51 : decode cX7_same 51 = .ok (.invokestatic 180, 3) := by decide +kernel
theorem dX7_same_54 : decode cX7_same 54 = .ok (.ifCond .ne 5, 3) := by decide +kernel
theorem dX7_same_57 : decode cX7_same 57 = .ok (.iconst (-1), 1) := by decide +kernel
theorem dX7_same_58 : decode cX7_same 58 = .ok (.ireturn, 1) := by decide +kernel
theorem dX7_same_59 : decode cX7_same 59 = .ok (.aload 7, 2) := by decide +kernel
theorem dX7_same_61 : decode cX7_same 61 = .ok (.getfield 184, 3) := by decide +kernel
theorem dX7_same_64 : decode cX7_same 64 = .ok (.ifCond .eq 11, 3) := by decide +kernel
theorem dX7_same_67 : decode cX7_same 67 = .ok (.aload 8, 2) := by decide +kernel
theorem dX7_same_69 : decode cX7_same 69 = .ok (.getfield 184, 3) := by decide +kernel
theorem dX7_same_72 : decode cX7_same 72 = .ok (.ifCond .ne 9, 3) := by decide +kernel
theorem dX7_same_75 : decode cX7_same 75 = .ok (.aload_n 0, 1) := by decide +kernel
theorem dX7_same_76 : decode cX7_same 76 = .ok (.iconst 1, 1) := by decide +kernel
theorem dX7_same_77 : decode cX7_same 77 = .ok (.invokevirtual 94, 3) := by decide +kernel
theorem dX7_same_80 : decode cX7_same 80 = .ok (.ireturn, 1) := by decide +kernel
theorem dX7_same_81 : decode cX7_same 81 = .ok (.aload_n 0, 1) := by decide +kernel
theorem dX7_same_82 : decode cX7_same 82 = .ok (.getfield 44, 3) := by decide +kernel
theorem dX7_same_85 : decode cX7_same 85 = .ok (.aload 7, 2) := by decide +kernel
theorem dX7_same_87 : decode cX7_same 87 = .ok (.aload 7, 2) := by decide +kernel
theorem dX7_same_89 : decode cX7_same 89 = .ok (.getfield 198, 3) := by decide +kernel
theorem dX7_same_92 : decode cX7_same 92 = .ok (.iload_n 3, 1) := by decide +kernel
theorem dX7_same_93 : decode cX7_same 93 = .ok (.iload 4, 2) := by decide +kernel
theorem dX7_same_95 : decode cX7_same 95 = .ok (.iload 5, 2) := by decide +kernel
theorem dX7_same_97 : decode cX7_same 97 = .ok (.invokevirtual 313, 3) := by decide +kernel
theorem dX7_same_100 : decode cX7_same 100 = .ok (.istore 9, 2) := by decide +kernel
theorem dX7_same_102 : decode cX7_same 102 = .ok (.aload_n 0, 1) := by decide +kernel
theorem dX7_same_103 : decode cX7_same 103 = .ok (.getfield 44, 3) := by decide +kernel
theorem dX7_same_106 : decode cX7_same 106 = .ok (.aload 8, 2) := by decide +kernel
theorem dX7_same_108 : decode cX7_same 108 = .ok (.aload 8, 2) := by decide +kernel
theorem dX7_same_110 : decode cX7_same 110 = .ok (.getfield 198, 3) := by decide +kernel
theorem dX7_same_113 : decode cX7_same 113 = .ok (.iload_n 3, 1) := by decide +kernel
theorem dX7_same_114 : decode cX7_same 114 = .ok (.iload 4, 2) := by decide +kernel
theorem dX7_same_116 : decode cX7_same 116 = .ok (.iload 6, 2) := by decide +kernel
theorem dX7_same_118 : decode cX7_same 118 = .ok (.invokevirtual 313, 3) := by decide +kernel
theorem dX7_same_121 : decode cX7_same 121 = .ok (.istore 10, 2) := by decide +kernel
theorem dX7_same_123 : decode cX7_same 123 = .ok (.iload 9, 2) := by decide +kernel
theorem dX7_same_125 : decode cX7_same 125 = .ok (.bipush (-9), 2) := by decide +kernel
theorem dX7_same_127 : decode cX7_same 127 = .ok (.if_icmp .eq 10, 3) := by decide +kernel
theorem dX7_same_130 : decode cX7_same 130 = .ok (.iload 10, 2) := by decide +kernel
theorem dX7_same_132 : decode cX7_same 132 = .ok (.bipush (-9), 2) := by decide +kernel
theorem dX7_same_134 : decode cX7_same 134 = .ok (.if_icmp .ne 6, 3) := by decide +kernel
theorem dX7_same_137 : decode cX7_same 137 = .ok (.bipush (-9), 2) := by decide +kernel
theorem dX7_same_139 : decode cX7_same 139 = .ok (.ireturn, 1) := by decide +kernel
theorem dX7_same_140 : decode cX7_same 140 = .ok (.aload_n 0, 1) := by decide +kernel
theorem dX7_same_141 : decode cX7_same 141 = .ok (.iload 9, 2) := by decide +kernel
theorem dX7_same_143 : decode cX7_same 143 = .ok (.iload 10, 2) := by decide +kernel
theorem dX7_same_145 : decode cX7_same 145 = .ok (.isub, 1) := by decide +kernel
theorem dX7_same_146 : decode cX7_same 146 = .ok (.invokestatic 306, 3) := by decide +kernel
theorem dX7_same_149 : decode cX7_same 149 = .ok (.iload 10, 2) := by decide +kernel
theorem dX7_same_151 : decode cX7_same 151 = .ok (.iload 9, 2) := by decide +kernel
theorem dX7_same_153 : decode cX7_same 153 = .ok (.if_icmp .le 7, 3) := by decide +kernel
theorem dX7_same_156 : decode cX7_same 156 = .ok (.iconst 1, 1) := by decide +kernel
theorem dX7_same_157 : decode cX7_same 157 = .ok (.goto 4, 3) := by decide +kernel
theorem dX7_same_160 : decode cX7_same 160 = .ok (.iconst 0, 1) := by decide +kernel
theorem dX7_same_161 : decode cX7_same 161 = .ok (.invokevirtual 117, 3) := by decide +kernel
theorem dX7_same_164 : decode cX7_same 164 = .ok (.ireturn, 1) := by decide +kernel
theorem dX7_rule_0 : decode cX7_rule 0 = .ok (.aload_n 0, 1) := by decide +kernel
theorem dX7_rule_1 : decode cX7_rule 1 = .ok (.iload_n 1, 1) := by decide +kernel
theorem dX7_rule_2 : decode cX7_rule 2 = .ok (.invokevirtual 162, 3) := by decide +kernel
theorem dX7_rule_5 : decode cX7_rule 5 = .ok (.astore 5, 2) := by decide +kernel
theorem dX7_rule_7 : decode cX7_rule 7 = .ok (.aload 5, 2) := by decide +kernel
theorem dX7_rule_9 : decode cX7_rule 9 = .ok (.ifnull 23, 3) := by decide +kernel
theorem dX7_rule_12 : decode cX7_rule 12 = .ok (.iload_n 2, 1) := by decide +kernel
theorem dX7_rule_13 : decode cX7_rule 13 = .ok (.iload_n 3, 1) := by decide +kernel
theorem dX7_rule_14 : decode cX7_rule 14 = .ok (.invokestatic 284, 3) := by decide +kernel
theorem dX7_rule_17 : decode cX7_rule 17 = .ok (.ifCond .eq 15, 3) := by decide +kernel
theorem dX7_rule_20 : decode cX7_rule 20 = .ok (.iload 4, 2) := by decide +kernel
theorem dX7_rule_22 : decode cX7_rule 22 = .ok (.iconst 0, 1) := by decide +kernel
theorem dX7_rule_23 : decode cX7_rule 23 = .ok (.sipush 2000, 3) := by decide +kernel
theorem dX7_rule_26 : decode cX7_rule 26 = .ok (.invokestatic 180, 3) := by decide +kernel
theorem dX7_rule_29 : decode cX7_rule 29 = .ok (.ifCond .ne 5, 3) := by decide +kernel
theorem dX7_rule_32 : decode cX7_rule 32 = .ok (.iconst (-1), 1) := by decide +kernel
theorem dX7_rule_33 : decode cX7_rule 33 = .ok (.ireturn, 1) := by decide +kernel
theorem dX7_rule_34 : decode cX7_rule 34 = .ok (.aload 5, 2) := by decide +kernel
theorem dX7_rule_36 : decode cX7_rule 36 = .ok (.getfield 184, 3) := by decide +kernel
theorem dX7_rule_39 : decode cX7_rule 39 = .ok (.ifCond .ne 9, 3) := by decide +kernel
theorem dX7_rule_42 : decode cX7_rule 42 = .ok (.aload_n 0, 1) := by decide +kernel
theorem dX7_rule_43 : decode cX7_rule 43 = .ok (.iconst 1, 1) := by decide +kernel
theorem dX7_rule_44 : decode cX7_rule 44 = .ok (.invokevirtual 94, 3) := by decide +kernel
theorem dX7_rule_47 : decode cX7_rule 47 = .ok (.ireturn, 1) := by decide +kernel
theorem dX7_rule_48 : decode cX7_rule 48 = .ok (.iconst 3, 1) := by decide +kernel
theorem dX7_rule_49 : decode cX7_rule 49 = .ok (.istore 6, 2) := by decide +kernel
theorem dX7_rule_51 : decode cX7_rule 51 = .ok (.iload 6, 2) := by decide +kernel
theorem dX7_rule_53 : decode cX7_rule 53 = .ok (.aload_n 0, 1) := by decide +kernel
theorem dX7_rule_54 : decode cX7_rule 54 = .ok (.getfield 78, 3) := by decide +kernel
theorem dX7_rule_57 : decode cX7_rule 57 = .ok (.arraylength, 1) := by decide +kernel
theorem dX7_rule_58 : decode cX7_rule 58 = .ok (.if_icmp .ge 48, 3) := by decide +kernel
theorem dX7_rule_61 : decode cX7_rule 61 = .ok (.aload_n 0, 1) := by decide +kernel
theorem dX7_rule_62 : decode cX7_rule 62 = .ok (.getfield 44, 3) := by decide +kernel
theorem dX7_rule_65 : decode cX7_rule 65 = .ok (.aload 5, 2) := by decide +kernel
theorem dX7_rule_67 : decode cX7_rule 67 = .ok (.iload 6, 2) := by decide +kernel
theorem dX7_rule_69 : decode cX7_rule 69 = .ok (.iload_n 2, 1) := by decide +kernel
theorem dX7_rule_70 : decode cX7_rule 70 = .ok (.iload_n 3, 1) := by decide +kernel
theorem dX7_rule_71 : decode cX7_rule 71 = .ok (.iload 4, 2) := by decide +kernel
theorem dX7_rule_73 : decode cX7_rule 73 = .ok (.invokevirtual 313, 3) := by decide +kernel
theorem dX7_rule_76 : decode cX7_rule 76 = .ok (.istore 7, 2) := by decide +kernel
theorem dX7_rule_78 : decode cX7_rule 78 = .ok (.aload_n 0, 1) := by decide +kernel
theorem dX7_rule_79 : decode cX7_rule 79 = .ok (.getfield 78, 3) := by decide +kernel
theorem dX7_rule_82 : decode cX7_rule 82 = .ok (.iload 6, 2) := by decide +kernel
theorem dX7_rule_84 : decode cX7_rule 84 = .ok (.iload 7, 2) := by decide +kernel
theorem dX7_rule_86 : decode cX7_rule 86 = .ok (.bipush (-9), 2) := by decide +kernel
theorem dX7_rule_88 : decode cX7_rule 88 = .ok (.if_icmp .ne 9, 3) := by decide +kernel
theorem dX7_rule_91 : decode cX7_rule 91 = .ok (.sipush 200, 3) := by decide +kernel
theorem dX7_rule_94 : decode cX7_rule 94 = .ok (.goto 5, 3) := by decide +kernel
theorem dX7_rule_97 : decode cX7_rule 97 = .ok (.iload 7, 2) := by decide +kernel
theorem dX7_rule_99 : decode cX7_rule 99 = .ok (.iastore, 1) := by decide +kernel
theorem dX7_rule_100 : decode cX7_rule 100 = .ok (.iinc 6 1, 3) := by decide +kernel
theorem dX7_rule_103 : decode cX7_rule 103 = .ok (.goto (-52), 3) := by decide +kernel
theorem dX7_rule_106 : decode cX7_rule 106 = .ok (.iconst 0, 1) := by decide +kernel
theorem dX7_rule_107 : decode cX7_rule 107 = .ok (.istore 6, 2) := by decide +kernel
theorem dX7_rule_109 : decode cX7_rule 109 = .ok (.iconst 0, 1) := by decide +kernel
theorem dX7_rule_110 : decode cX7_rule 110 = .ok (.istore 7, 2) := by decide +kernel
theorem dX7_rule_112 : decode cX7_rule 112 = .ok (.iconst 1, 1) := by decide +kernel
theorem dX7_rule_113 : decode cX7_rule 113 = .ok (.istore 8, 2) := by decide +kernel
theorem dX7_rule_115 : decode cX7_rule 115 = .ok (.iload 8, 2) := by decide +kernel
theorem dX7_rule_117 : decode cX7_rule 117 = .ok (.bipush 20, 2) := by decide +kernel
theorem dX7_rule_119 : decode cX7_rule 119 = .ok (.if_icmp .gt 72, 3) := by decide +kernel
theorem dX7_rule_122 : decode cX7_rule 122 = .ok (.iconst 0, 1) := by decide +kernel
theorem dX7_rule_123 : decode cX7_rule 123 = .ok (.istore 9, 2) := by decide +kernel
theorem dX7_rule_125 : decode cX7_rule 125 = .ok (.iconst 3, 1) := by decide +kernel
theorem dX7_rule_126 : decode cX7_rule 126 = .ok (.istore 10, 2) := by decide +kernel
theorem dX7_rule_128 : decode cX7_rule 128 = .ok (.iload 10, 2) := by decide +kernel
theorem dX7_rule_130 : decode cX7_rule 130 = .ok (.aload_n 0, 1) := by decide +kernel
theorem dX7_rule_131 : decode cX7_rule 131 = .ok (.getfield 78, 3) := by decide +kernel
theorem dX7_rule_134 : decode cX7_rule 134 = .ok (.arraylength, 1) := by decide +kernel
theorem dX7_rule_135 : decode cX7_rule 135 = .ok (.if_icmp .ge 30, 3) := by decide +kernel
theorem dX7_rule_138 : decode cX7_rule 138 = .ok (.iload 9, 2) := by decide +kernel
theorem dX7_rule_140 : decode cX7_rule 140 = .ok (.iload 8, 2) := by decide +kernel
theorem dX7_rule_142 : decode cX7_rule 142 = .ok (.iload 10, 2) := by decide +kernel
theorem dX7_rule_144 : decode cX7_rule 144 = .ok (.imul, 1) := by decide +kernel
theorem dX7_rule_145 : decode cX7_rule 145 = .ok (.aload_n 0, 1) := by decide +kernel
theorem dX7_rule_146 : decode cX7_rule 146 = .ok (.getfield 78, 3) := by decide +kernel
theorem dX7_rule_149 : decode cX7_rule 149 = .ok (.iload 10, 2) := by decide +kernel
theorem dX7_rule_151 : decode cX7_rule 151 = .ok (.iaload, 1) := by decide +kernel
theorem dX7_rule_152 : decode cX7_rule 152 = .ok (.isub, 1) := by decide +kernel
theorem dX7_rule_153 : decode cX7_rule 153 = .ok (.invokestatic 306, 3) := by decide +kernel
theorem dX7_rule_156 : decode cX7_rule 156 = .ok (.iadd, 1) := by decide +kernel
theorem dX7_rule_157 : decode cX7_rule 157 = .ok (.istore 9, 2) := by decide +kernel
theorem dX7_rule_159 : decode cX7_rule 159 = .ok (.iinc 10 1, 3) := by decide +kernel
theorem dX7_rule_162 : decode cX7_rule 162 = .ok (.goto (-34), 3) := by decide +kernel
theorem dX7_rule_165 : decode cX7_rule 165 = .ok (.iload 6, 2) := by decide +kernel
theorem dX7_rule_167 : decode cX7_rule 167 = .ok (.ifCond .eq 10, 3) := by decide +kernel
theorem dX7_rule_170 : decode cX7_rule 170 = .ok (.iload 9, 2) := by decide +kernel
theorem dX7_rule_172 : decode cX7_rule 172 = .ok (.iload 7, 2) := by decide +kernel
theorem dX7_rule_174 : decode cX7_rule 174 = .ok (.if_icmp .ge 11, 3) := by decide +kernel
theorem dX7_rule_177 : decode cX7_rule 177 = .ok (.iload 8, 2) := by decide +kernel
theorem dX7_rule_179 : decode cX7_rule 179 = .ok (.istore 6, 2) := by decide +kernel
theorem dX7_rule_181 : decode cX7_rule 181 = .ok (.iload 9, 2) := by decide +kernel
theorem dX7_rule_183 : decode cX7_rule 183 = .ok (.istore 7, 2) := by decide +kernel
theorem dX7_rule_185 : decode cX7_rule 185 = .ok (.iinc 8 1, 3) := by decide +kernel
theorem dX7_rule_188 : decode cX7_rule 188 = .ok (.goto (-73), 3) := by decide +kernel
theorem dX7_rule_191 : decode cX7_rule 191 = .ok (.aload_n 0, 1) := by decide +kernel
theorem dX7_rule_192 : decode cX7_rule 192 = .ok (.iload 6, 2) := by decide +kernel
theorem dX7_rule_194 : decode cX7_rule 194 = .ok (.iload 7, 2) := by decide +kernel
theorem dX7_rule_196 : decode cX7_rule 196 = .ok (.invokevirtual 117, 3) := by decide +kernel
theorem dX7_rule_199 : decode cX7_rule 199 = .ok (.ireturn, 1) := by decide +kernel
theorem dX7_tellLosses_0 : decode cX7_tellLosses 0 = .ok (.aload_n 0, 1) := by decide +kernel
theorem dX7_tellLosses_1 : decode cX7_tellLosses 1 = .ok (.iload_n 1, 1) := by decide +kernel
theorem dX7_tellLosses_2 : decode cX7_tellLosses 2 = .ok (.invokevirtual 162, 3) := by decide +kernel
theorem dX7_tellLosses_5 : decode cX7_tellLosses 5 = .ok (.astore_n 3, 1) := by decide +kernel
theorem dX7_tellLosses_6 : decode cX7_tellLosses 6 = .ok (.aload_n 0, 1) := by decide +kernel
theorem dX7_tellLosses_7 : decode cX7_tellLosses 7 = .ok (.iload_n 1, 1) := by decide +kernel
theorem dX7_tellLosses_8 : decode cX7_tellLosses 8 = .ok (.invokevirtual 170, 3) := by decide +kernel
theorem dX7_tellLosses_11 : decode cX7_tellLosses 11 = .ok (.astore 4, 2) := by decide +kernel
theorem dX7_tellLosses_13 : decode cX7_tellLosses 13 = .ok (.aload_n 3, 1) := by decide +kernel
theorem dX7_tellLosses_14 : decode cX7_tellLosses 14 = .ok (.ifnull 8, 3) := by decide +kernel
theorem dX7_tellLosses_17 : decode cX7_tellLosses 17 = .ok (.aload 4, 2) := by decide +kernel
theorem dX7_tellLosses_19 : decode cX7_tellLosses 19 = .ok (.ifnonnull 4, 3) := by decide +kernel
theorem dX7_tellLosses_22 : decode cX7_tellLosses 22 = .ok (.return_, 1) := by decide +kernel
theorem dX7_tellLosses_23 : decode cX7_tellLosses 23 = .ok (.aload_n 0, 1) := by decide +kernel
theorem dX7_tellLosses_24 : decode cX7_tellLosses 24 = .ok (.getfield 44, 3) := by decide +kernel
theorem dX7_tellLosses_27 : decode cX7_tellLosses 27 = .ok (.aload_n 3, 1) := by decide +kernel
theorem dX7_tellLosses_28 : decode cX7_tellLosses 28 = .ok (.aload_n 3, 1) := by decide +kernel
theorem dX7_tellLosses_29 : decode cX7_tellLosses 29 = .ok (.getfield 198, 3) := by decide +kernel
theorem dX7_tellLosses_32 : decode cX7_tellLosses 32 = .ok (.aload_n 3, 1) := by decide +kernel
theorem dX7_tellLosses_33 : decode cX7_tellLosses 33 = .ok (.getfield 201, 3) := by decide +kernel
theorem dX7_tellLosses_36 : decode cX7_tellLosses 36 = .ok (.aload 4, 2) := by decide +kernel
theorem dX7_tellLosses_38 : decode cX7_tellLosses 38 = .ok (.invokevirtual 309, 3) := by decide +kernel
theorem dX7_tellLosses_41 : decode cX7_tellLosses 41 = .ok (.iload_n 2, 1) := by decide +kernel
theorem dX7_tellLosses_42 : decode cX7_tellLosses 42 = .ok (.iconst 1, 1) := by decide +kernel
theorem dX7_tellLosses_43 : decode cX7_tellLosses 43 = .ok (.iload_n 1, 1) := by decide +kernel
theorem dX7_tellLosses_44 : decode cX7_tellLosses 44 = .ok (.ishl, 1) := by decide +kernel
theorem dX7_tellLosses_45 : decode cX7_tellLosses 45 = .ok (.iconst (-1), 1) := by decide +kernel
theorem dX7_tellLosses_46 : decode cX7_tellLosses 46 = .ok (.ixor, 1) := by decide +kernel
theorem dX7_tellLosses_47 : decode cX7_tellLosses 47 = .ok (.iand, 1) := by decide +kernel
theorem dX7_tellLosses_48 : decode cX7_tellLosses 48 = .ok (.istore 5, 2) := by decide +kernel
theorem dX7_tellLosses_50 : decode cX7_tellLosses 50 = .ok (.aload_n 0, 1) := by decide +kernel
theorem dX7_tellLosses_51 : decode cX7_tellLosses 51 = .ok (.iload 5, 2) := by decide +kernel
theorem dX7_tellLosses_53 : decode cX7_tellLosses 53 = .ok (.invokevirtual 397, 3) := by decide +kernel
theorem dX7_tellLosses_56 : decode cX7_tellLosses 56 = .ok (.istore 6, 2) := by decide +kernel
theorem dX7_tellLosses_58 : decode cX7_tellLosses 58 = .ok (.iconst 0, 1) := by decide +kernel
theorem dX7_tellLosses_59 : decode cX7_tellLosses 59 = .ok (.istore 7, 2) := by decide +kernel
theorem dX7_tellLosses_61 : decode cX7_tellLosses 61 = .ok (.iload 7, 2) := by decide +kernel
theorem dX7_tellLosses_63 : decode cX7_tellLosses 63 = .ok (.iload 6, 2) := by decide +kernel
theorem dX7_tellLosses_65 : decode cX7_tellLosses 65 = .ok (.if_icmp .gt 76, 3) := by decide +kernel
theorem dX7_tellLosses_68 : decode cX7_tellLosses 68 = .ok (.aload_n 0, 1) := by decide +kernel
theorem dX7_tellLosses_69 : decode cX7_tellLosses 69 = .ok (.getfield 44, 3) := by decide +kernel
theorem dX7_tellLosses_72 : decode cX7_tellLosses 72 = .ok (.invokevirtual 261, 3) := by decide +kernel
theorem dX7_tellLosses_75 : decode cX7_tellLosses 75 = .ok (.istore 8, 2) := by decide +kernel
theorem dX7_tellLosses_77 : decode cX7_tellLosses 77 = .ok (.iconst 0, 1) := by decide +kernel
theorem dX7_tellLosses_78 : decode cX7_tellLosses 78 = .ok (.istore 9, 2) := by decide +kernel
theorem dX7_tellLosses_80 : decode cX7_tellLosses 80 = .ok (.iload 9, 2) := by decide +kernel
theorem dX7_tellLosses_82 : decode cX7_tellLosses 82 = .ok (.bipush 16, 2) := by decide +kernel
theorem dX7_tellLosses_84 : decode cX7_tellLosses 84 = .ok (.if_icmp .ge 42, 3) := by decide +kernel
theorem dX7_tellLosses_87 : decode cX7_tellLosses 87 = .ok (.iload 9, 2) := by decide +kernel
theorem dX7_tellLosses_89 : decode cX7_tellLosses 89 = .ok (.iload 5, 2) := by decide +kernel
theorem dX7_tellLosses_91 : decode cX7_tellLosses 91 = .ok (.iconst (-1), 1) := by decide +kernel
theorem dX7_tellLosses_92 : decode cX7_tellLosses 92 = .ok (.ixor, 1) := by decide +kernel
theorem dX7_tellLosses_93 : decode cX7_tellLosses 93 = .ok (.iand, 1) := by decide +kernel
theorem dX7_tellLosses_94 : decode cX7_tellLosses 94 = .ok (.ifCond .ne 26, 3) := by decide +kernel
theorem dX7_tellLosses_97 : decode cX7_tellLosses 97 = .ok (.aload_n 0, 1) := by decide +kernel
theorem dX7_tellLosses_98 : decode cX7_tellLosses 98 = .ok (.iload 9, 2) := by decide +kernel
theorem dX7_tellLosses_100 : decode cX7_tellLosses 100 = .ok (.invokevirtual 397, 3) := by decide +kernel
theorem dX7_tellLosses_103 : decode cX7_tellLosses 103 = .ok (.iload 7, 2) := by decide +kernel
theorem dX7_tellLosses_105 : decode cX7_tellLosses 105 = .ok (.if_icmp .ne 15, 3) := by decide +kernel
theorem dX7_tellLosses_108 : decode cX7_tellLosses 108 = .ok (.aload_n 0, 1) := by decide +kernel
theorem dX7_tellLosses_109 : decode cX7_tellLosses 109 = .ok (.getfield 70, 3) := by decide +kernel
theorem dX7_tellLosses_112 : decode cX7_tellLosses 112 = .ok (.iload_n 1, 1) := by decide +kernel
theorem dX7_tellLosses_113 : decode cX7_tellLosses 113 = .ok (.iload 9, 2) := by decide +kernel
theorem dX7_tellLosses_115 : decode cX7_tellLosses 115 = .ok (.iload 8, 2) := by decide +kernel
theorem dX7_tellLosses_117 : decode cX7_tellLosses 117 = .ok (.invokevirtual 400, 3) := by decide +kernel
theorem dX7_tellLosses_120 : decode cX7_tellLosses 120 = .ok (.iinc 9 1, 3) := by decide +kernel
theorem dX7_tellLosses_123 : decode cX7_tellLosses 123 = .ok (.goto (-43), 3) := by decide +kernel
theorem dX7_tellLosses_126 : decode cX7_tellLosses 126 = .ok (.aload_n 0, 1) := by decide +kernel
theorem dX7_tellLosses_127 : decode cX7_tellLosses 127 = .ok (.getfield 44, 3) := by decide +kernel
theorem dX7_tellLosses_130 : decode cX7_tellLosses 130 = .ok (.iconst 4, 1) := by decide +kernel
theorem dX7_tellLosses_131 : decode cX7_tellLosses 131 = .ok (.iconst 0, 1) := by decide +kernel
theorem dX7_tellLosses_132 : decode cX7_tellLosses 132 = .ok (.invokevirtual 267, 3) := by decide +kernel
theorem dX7_tellLosses_135 : decode cX7_tellLosses 135 = .ok (.iinc 7 1, 3) := by decide +kernel
theorem dX7_tellLosses_138 : decode cX7_tellLosses 138 = .ok (.goto (-77), 3) := by decide +kernel
theorem dX7_tellLosses_141 : decode cX7_tellLosses 141 = .ok (.return_, 1) := by decide +kernel
theorem dX7_leastUnlike_0 : decode cX7_leastUnlike 0 = .ok (.iconst (-1), 1) := by decide +kernel
theorem dX7_leastUnlike_1 : decode cX7_leastUnlike 1 = .ok (.istore_n 2, 1) := by decide +kernel
theorem dX7_leastUnlike_2 : decode cX7_leastUnlike 2 = .ok (.iconst 0, 1) := by decide +kernel
theorem dX7_leastUnlike_3 : decode cX7_leastUnlike 3 = .ok (.istore_n 3, 1) := by decide +kernel
theorem dX7_leastUnlike_4 : decode cX7_leastUnlike 4 = .ok (.iload_n 3, 1) := by decide +kernel
theorem dX7_leastUnlike_5 : decode cX7_leastUnlike 5 = .ok (.aload_n 0, 1) := by decide +kernel
theorem dX7_leastUnlike_6 : decode cX7_leastUnlike 6 = .ok (.getfield 74, 3) := by decide +kernel
theorem dX7_leastUnlike_9 : decode cX7_leastUnlike 9 = .ok (.arraylength, 1) := by decide +kernel
theorem dX7_leastUnlike_10 : decode cX7_leastUnlike 10 = .ok (.if_icmp .ge 131, 3) := by decide +kernel
theorem dX7_leastUnlike_13 : decode cX7_leastUnlike 13 = .ok (.aload_n 0, 1) := by decide +kernel
theorem dX7_leastUnlike_14 : decode cX7_leastUnlike 14 = .ok (.iload_n 3, 1) := by decide +kernel
theorem dX7_leastUnlike_15 : decode cX7_leastUnlike 15 = .ok (.iconst 4, 1) := by decide +kernel
theorem dX7_leastUnlike_16 : decode cX7_leastUnlike 16 = .ok (.idiv, 1) := by decide +kernel
theorem dX7_leastUnlike_17 : decode cX7_leastUnlike 17 = .ok (.invokevirtual 162, 3) := by decide +kernel
theorem dX7_leastUnlike_20 : decode cX7_leastUnlike 20 = .ok (.astore 4, 2) := by decide +kernel
theorem dX7_leastUnlike_22 : decode cX7_leastUnlike 22 = .ok (.aload_n 0, 1) := by decide +kernel
theorem dX7_leastUnlike_23 : decode cX7_leastUnlike 23 = .ok (.iload_n 3, 1) := by decide +kernel
theorem dX7_leastUnlike_24 : decode cX7_leastUnlike 24 = .ok (.iconst 4, 1) := by decide +kernel
theorem dX7_leastUnlike_25 : decode cX7_leastUnlike 25 = .ok (.irem, 1) := by decide +kernel
theorem dX7_leastUnlike_26 : decode cX7_leastUnlike 26 = .ok (.invokevirtual 170, 3) := by decide +kernel
theorem dX7_leastUnlike_29 : decode cX7_leastUnlike 29 = .ok (.astore 5, 2) := by decide +kernel
theorem dX7_leastUnlike_31 : decode cX7_leastUnlike 31 = .ok (.aload_n 0, 1) := by decide +kernel
theorem dX7_leastUnlike_32 : decode cX7_leastUnlike 32 = .ok (.getfield 74, 3) := by decide +kernel
theorem dX7_leastUnlike_35 : decode cX7_leastUnlike 35 = .ok (.iload_n 3, 1) := by decide +kernel
theorem dX7_leastUnlike_36 : decode cX7_leastUnlike 36 = .ok (.iconst (-1), 1) := by decide +kernel
theorem dX7_leastUnlike_37 : decode cX7_leastUnlike 37 = .ok (.iastore, 1) := by decide +kernel
theorem dX7_leastUnlike_38 : decode cX7_leastUnlike 38 = .ok (.aload 4, 2) := by decide +kernel
theorem dX7_leastUnlike_40 : decode cX7_leastUnlike 40 = .ok (.ifnull 95, 3) := by decide +kernel
theorem dX7_leastUnlike_43 : decode cX7_leastUnlike 43 = .ok (.aload 5, 2) := by decide +kernel
theorem dX7_leastUnlike_45 : decode cX7_leastUnlike 45 = .ok (.ifnull 90, 3) := by decide +kernel
theorem dX7_leastUnlike_48 : decode cX7_leastUnlike 48 = .ok (.aload 4, 2) := by decide +kernel
theorem dX7_leastUnlike_50 : decode cX7_leastUnlike 50 = .ok (.getfield 184, 3) := by decide +kernel
theorem dX7_leastUnlike_53 : decode cX7_leastUnlike 53 = .ok (.ifCond .eq 82, 3) := by decide +kernel
theorem dX7_leastUnlike_56 : decode cX7_leastUnlike 56 = .ok (.aload 5, 2) := by decide +kernel
theorem dX7_leastUnlike_58 : decode cX7_leastUnlike 58 = .ok (.getfield 190, 3) := by decide +kernel
theorem dX7_leastUnlike_61 : decode cX7_leastUnlike 61 = .ok (.ifCond .eq 74, 3) := by decide +kernel
theorem dX7_leastUnlike_64 : decode cX7_leastUnlike 64 = .ok (.aload 4, 2) := by decide +kernel
theorem dX7_leastUnlike_66 : decode cX7_leastUnlike 66 = .ok (.getfield 198, 3) := by decide +kernel
theorem dX7_leastUnlike_69 : decode cX7_leastUnlike 69 = .ok (.aload_n 1, 1) := by decide +kernel
theorem dX7_leastUnlike_70 : decode cX7_leastUnlike 70 = .ok (.getfield 121, 3) := by decide +kernel
theorem dX7_leastUnlike_73 : decode cX7_leastUnlike 73 = .ok (.if_icmp .ne 62, 3) := by decide +kernel
theorem dX7_leastUnlike_76 : decode cX7_leastUnlike 76 = .ok (.aload_n 0, 1) := by decide +kernel
theorem dX7_leastUnlike_77 : decode cX7_leastUnlike 77 = .ok (.getfield 44, 3) := by decide +kernel
theorem dX7_leastUnlike_80 : decode cX7_leastUnlike 80 = .ok (.aload 4, 2) := by decide +kernel
theorem dX7_leastUnlike_82 : decode cX7_leastUnlike 82 = .ok (.aload 4, 2) := by decide +kernel
theorem dX7_leastUnlike_84 : decode cX7_leastUnlike 84 = .ok (.getfield 198, 3) := by decide +kernel
theorem dX7_leastUnlike_87 : decode cX7_leastUnlike 87 = .ok (.aload 4, 2) := by decide +kernel
theorem dX7_leastUnlike_89 : decode cX7_leastUnlike 89 = .ok (.getfield 201, 3) := by decide +kernel
theorem dX7_leastUnlike_92 : decode cX7_leastUnlike 92 = .ok (.aload 5, 2) := by decide +kernel
theorem dX7_leastUnlike_94 : decode cX7_leastUnlike 94 = .ok (.invokevirtual 309, 3) := by decide +kernel
theorem dX7_leastUnlike_97 : decode cX7_leastUnlike 97 = .ok (.aload_n 0, 1) := by decide +kernel
theorem dX7_leastUnlike_98 : decode cX7_leastUnlike 98 = .ok (.getfield 74, 3) := by decide +kernel
theorem dX7_leastUnlike_101 : decode cX7_leastUnlike 101 = .ok (.iload_n 3, 1) := by decide +kernel
theorem dX7_leastUnlike_102 : decode cX7_leastUnlike 102 = .ok (.aload_n 0, 1) := by decide +kernel
theorem dX7_leastUnlike_103 : decode cX7_leastUnlike 103 = .ok (.getfield 44, 3) := by decide +kernel
theorem dX7_leastUnlike_106 : decode cX7_leastUnlike 106 = .ok (.aload_n 1, 1) := by decide +kernel
theorem dX7_leastUnlike_107 : decode cX7_leastUnlike 107 = .ok (.invokevirtual 404, 3) := by decide +kernel
theorem dX7_leastUnlike_110 : decode cX7_leastUnlike 110 = .ok (.iastore, 1) := by decide +kernel
theorem dX7_leastUnlike_111 : decode cX7_leastUnlike 111 = .ok (.iload_n 2, 1) := by decide +kernel
theorem dX7_leastUnlike_112 : decode cX7_leastUnlike 112 = .ok (.ifCond .ge 12, 3) := by decide +kernel
theorem dX7_leastUnlike_115 : decode cX7_leastUnlike 115 = .ok (.aload_n 0, 1) := by decide +kernel
theorem dX7_leastUnlike_116 : decode cX7_leastUnlike 116 = .ok (.getfield 74, 3) := by decide +kernel
theorem dX7_leastUnlike_119 : decode cX7_leastUnlike 119 = .ok (.iload_n 3, 1) := by decide +kernel
theorem dX7_leastUnlike_120 : decode cX7_leastUnlike 120 = .ok (.iaload, 1) := by decide +kernel
theorem dX7_leastUnlike_121 : decode cX7_leastUnlike 121 = .ok (.goto 13, 3) := by decide +kernel
theorem dX7_leastUnlike_124 : decode cX7_leastUnlike 124 = .ok (.iload_n 2, 1) := by decide +kernel
theorem dX7_leastUnlike_125 : decode cX7_leastUnlike 125 = .ok (.aload_n 0, 1) := by decide +kernel
theorem dX7_leastUnlike_126 : decode cX7_leastUnlike 126 = .ok (.getfield 74, 3) := by decide +kernel
theorem dX7_leastUnlike_129 : decode cX7_leastUnlike 129 = .ok (.iload_n 3, 1) := by decide +kernel
theorem dX7_leastUnlike_130 : decode cX7_leastUnlike 130 = .ok (.iaload, 1) := by decide +kernel
theorem dX7_leastUnlike_131 : decode cX7_leastUnlike 131 = .ok (.invokestatic 281, 3) := by decide +kernel
theorem dX7_leastUnlike_134 : decode cX7_leastUnlike 134 = .ok (.istore_n 2, 1) := by decide +kernel
theorem dX7_leastUnlike_135 : decode cX7_leastUnlike 135 = .ok (.iinc 3 1, 3) := by decide +kernel
theorem dX7_leastUnlike_138 : decode cX7_leastUnlike 138 = .ok (.goto (-134), 3) := by decide +kernel
theorem dX7_leastUnlike_141 : decode cX7_leastUnlike 141 = .ok (.iload_n 2, 1) := by decide +kernel
theorem dX7_leastUnlike_142 : decode cX7_leastUnlike 142 = .ok (.ireturn, 1) := by decide +kernel
theorem dX7_order_0 : decode cX7_order 0 = .ok (.aload_n 0, 1) := by decide +kernel
theorem dX7_order_1 : decode cX7_order 1 = .ok (.iload_n 2, 1) := by decide +kernel
theorem dX7_order_2 : decode cX7_order 2 = .ok (.invokevirtual 90, 3) := by decide +kernel
theorem dX7_order_5 : decode cX7_order 5 = .ok (.astore_n 3, 1) := by decide +kernel
theorem dX7_order_6 : decode cX7_order 6 = .ok (.aload_n 3, 1) := by decide +kernel
theorem dX7_order_7 : decode cX7_order 7 = .ok (.ifnull 13, 3) := by decide +kernel
theorem dX7_order_10 : decode cX7_order 10 = .ok (.iload_n 1, 1) := by decide +kernel
theorem dX7_order_11 : decode cX7_order 11 = .ok (.iconst 1, 1) := by decide +kernel
theorem dX7_order_12 : decode cX7_order 12 = .ok (.bipush 15, 2) := by decide +kernel
theorem dX7_order_14 : decode cX7_order 14 = .ok (.invokestatic 180, 3) := by decide +kernel
theorem dX7_order_17 : decode cX7_order 17 = .ok (.ifCond .ne 5, 3) := by decide +kernel
theorem dX7_order_20 : decode cX7_order 20 = .ok (.iconst (-1), 1) := by decide +kernel
theorem dX7_order_21 : decode cX7_order 21 = .ok (.ireturn, 1) := by decide +kernel
theorem dX7_order_22 : decode cX7_order 22 = .ok (.iconst 0, 1) := by decide +kernel
theorem dX7_order_23 : decode cX7_order 23 = .ok (.istore 4, 2) := by decide +kernel
theorem dX7_order_25 : decode cX7_order 25 = .ok (.iload 4, 2) := by decide +kernel
theorem dX7_order_27 : decode cX7_order 27 = .ok (.iconst 4, 1) := by decide +kernel
theorem dX7_order_28 : decode cX7_order 28 = .ok (.if_icmp .ge 33, 3) := by decide +kernel
theorem dX7_order_31 : decode cX7_order 31 = .ok (.iload 4, 2) := by decide +kernel
theorem dX7_order_33 : decode cX7_order 33 = .ok (.iload_n 1, 1) := by decide +kernel
theorem dX7_order_34 : decode cX7_order 34 = .ok (.invokestatic 317, 3) := by decide +kernel
theorem dX7_order_37 : decode cX7_order 37 = .ok (.ifCond .eq 18, 3) := by decide +kernel
theorem dX7_order_40 : decode cX7_order 40 = .ok (.aload_n 0, 1) := by decide +kernel
theorem dX7_order_41 : decode cX7_order 41 = .ok (.iload 4, 2) := by decide +kernel
theorem dX7_order_43 : decode cX7_order 43 = .ok (.invokevirtual 320, 3) := by decide +kernel
theorem dX7_order_46 : decode cX7_order 46 = .ok (.ifCond .ne 9, 3) := by decide +kernel
theorem dX7_order_49 : decode cX7_order 49 = .ok (.aload_n 0, 1) := by decide +kernel
theorem dX7_order_50 : decode cX7_order 50 = .ok (.iconst 1, 1) := by decide +kernel
theorem dX7_order_51 : decode cX7_order 51 = .ok (.invokevirtual 94, 3) := by decide +kernel
theorem dX7_order_54 : decode cX7_order 54 = .ok (.ireturn, 1) := by decide +kernel
theorem dX7_order_55 : decode cX7_order 55 = .ok (.iinc 4 1, 3) := by decide +kernel
theorem dX7_order_58 : decode cX7_order 58 = .ok (.goto (-33), 3) := by decide +kernel
theorem dX7_order_61 : decode cX7_order 61 = .ok (.iconst 0, 1) := by decide +kernel
theorem dX7_order_62 : decode cX7_order 62 = .ok (.istore 4, 2) := by decide +kernel
theorem dX7_order_64 : decode cX7_order 64 = .ok (.iload 4, 2) := by decide +kernel
theorem dX7_order_66 : decode cX7_order 66 = .ok (.iconst 4, 1) := by decide +kernel
theorem dX7_order_67 : decode cX7_order 67 = .ok (.if_icmp .ge 25, 3) := by decide +kernel
theorem dX7_order_70 : decode cX7_order 70 = .ok (.iload 4, 2) := by decide +kernel
theorem dX7_order_72 : decode cX7_order 72 = .ok (.iload_n 1, 1) := by decide +kernel
theorem dX7_order_73 : decode cX7_order 73 = .ok (.invokestatic 317, 3) := by decide +kernel
theorem dX7_order_76 : decode cX7_order 76 = .ok (.ifCond .eq 10, 3) := by decide +kernel
theorem dX7_order_79 : decode cX7_order 79 = .ok (.aload_n 0, 1) := by decide +kernel
theorem dX7_order_80 : decode cX7_order 80 = .ok (.iload 4, 2) := by decide +kernel
theorem dX7_order_82 : decode cX7_order 82 = .ok (.iload_n 1, 1) := by decide +kernel
theorem dX7_order_83 : decode cX7_order 83 = .ok (.invokevirtual 323, 3) := by decide +kernel
theorem dX7_order_86 : decode cX7_order 86 = .ok (.iinc 4 1, 3) := by decide +kernel
theorem dX7_order_89 : decode cX7_order 89 = .ok (.goto (-25), 3) := by decide +kernel
theorem dX7_order_92 : decode cX7_order 92 = .ok (.aload_n 0, 1) := by decide +kernel
theorem dX7_order_93 : decode cX7_order 93 = .ok (.getfield 70, 3) := by decide +kernel
theorem dX7_order_96 : decode cX7_order 96 = .ok (.iload_n 1, 1) := by decide +kernel
theorem dX7_order_97 : decode cX7_order 97 = .ok (.invokevirtual 326, 3) := by decide +kernel
theorem dX7_order_100 : decode cX7_order 100 = .ok (.aload_n 3, 1) := by decide +kernel
theorem dX7_order_101 : decode cX7_order 101 = .ok (.iload_n 1, 1) := by decide +kernel
theorem dX7_order_102 : decode cX7_order 102 = .ok (.invokestatic 329, 3) := by decide +kernel
theorem dX7_order_105 : decode cX7_order 105 = .ok (.invokevirtual 98, 3) := by decide +kernel
theorem dX7_order_108 : decode cX7_order 108 = .ok (.iconst 0, 1) := by decide +kernel
theorem dX7_order_109 : decode cX7_order 109 = .ok (.istore 4, 2) := by decide +kernel
theorem dX7_order_111 : decode cX7_order 111 = .ok (.iload 4, 2) := by decide +kernel
theorem dX7_order_113 : decode cX7_order 113 = .ok (.aload_n 3, 1) := by decide +kernel
theorem dX7_order_114 : decode cX7_order 114 = .ok (.getfield 121, 3) := by decide +kernel
theorem dX7_order_117 : decode cX7_order 117 = .ok (.if_icmp .ge 24, 3) := by decide +kernel
theorem dX7_order_120 : decode cX7_order 120 = .ok (.aload_n 3, 1) := by decide +kernel
theorem dX7_order_121 : decode cX7_order 121 = .ok (.iload 4, 2) := by decide +kernel
theorem dX7_order_123 : decode cX7_order 123 = .ok (.aload_n 0, 1) := by decide +kernel
theorem dX7_order_124 : decode cX7_order 124 = .ok (.getfield 70, 3) := by decide +kernel
theorem dX7_order_127 : decode cX7_order 127 = .ok (.iload 4, 2) := by decide +kernel
theorem dX7_order_129 : decode cX7_order 129 = .ok (.invokevirtual 334, 3) := by decide +kernel
theorem dX7_order_132 : decode cX7_order 132 = .ok (.invokevirtual 113, 3) := by decide +kernel
theorem dX7_order_135 : decode cX7_order 135 = .ok (.iinc 4 1, 3) := by decide +kernel
theorem dX7_order_138 : decode cX7_order 138 = .ok (.goto (-27), 3) := by decide +kernel
theorem dX7_order_141 : decode cX7_order 141 = .ok (.aload_n 0, 1) := by decide +kernel
theorem dX7_order_142 : decode cX7_order 142 = .ok (.getfield 70, 3) := by decide +kernel
theorem dX7_order_145 : decode cX7_order 145 = .ok (.getfield 337, 3) := by decide +kernel
theorem dX7_order_148 : decode cX7_order 148 = .ok (.ireturn, 1) := by decide +kernel
theorem dX7_which_0 : decode cX7_which 0 = .ok (.aload_n 0, 1) := by decide +kernel
theorem dX7_which_1 : decode cX7_which 1 = .ok (.iload_n 1, 1) := by decide +kernel
theorem dX7_which_2 : decode cX7_which 2 = .ok (.invokevirtual 90, 3) := by decide +kernel
theorem dX7_which_5 : decode cX7_which 5 = .ok (.astore_n 2, 1) := by decide +kernel
theorem dX7_which_6 : decode cX7_which 6 = .ok (.aload_n 2, 1) := by decide +kernel
theorem dX7_which_7 : decode cX7_which 7 = .ok (.ifnonnull 5, 3) := by decide +kernel
theorem dX7_which_10 : decode cX7_which 10 = .ok (.iconst (-1), 1) := by decide +kernel
theorem dX7_which_11 : decode cX7_which 11 = .ok (.ireturn, 1) := by decide +kernel
theorem dX7_which_12 : decode cX7_which 12 = .ok (.aload_n 2, 1) := by decide +kernel
theorem dX7_which_13 : decode cX7_which 13 = .ok (.invokestatic 343, 3) := by decide +kernel
theorem dX7_which_16 : decode cX7_which 16 = .ok (.istore_n 3, 1) := by decide +kernel
theorem dX7_which_17 : decode cX7_which 17 = .ok (.iload_n 3, 1) := by decide +kernel
theorem dX7_which_18 : decode cX7_which 18 = .ok (.ifCond .eq 9, 3) := by decide +kernel
theorem dX7_which_21 : decode cX7_which 21 = .ok (.aload_n 0, 1) := by decide +kernel
theorem dX7_which_22 : decode cX7_which 22 = .ok (.iload_n 3, 1) := by decide +kernel
theorem dX7_which_23 : decode cX7_which 23 = .ok (.invokevirtual 94, 3) := by decide +kernel
theorem dX7_which_26 : decode cX7_which 26 = .ok (.ireturn, 1) := by decide +kernel
theorem dX7_which_27 : decode cX7_which 27 = .ok (.aload_n 0, 1) := by decide +kernel
theorem dX7_which_28 : decode cX7_which 28 = .ok (.aload_n 2, 1) := by decide +kernel
theorem dX7_which_29 : decode cX7_which 29 = .ok (.invokevirtual 347, 3) := by decide +kernel
theorem dX7_which_32 : decode cX7_which 32 = .ok (.istore 4, 2) := by decide +kernel
theorem dX7_which_34 : decode cX7_which 34 = .ok (.iconst 0, 1) := by decide +kernel
theorem dX7_which_35 : decode cX7_which 35 = .ok (.istore 5, 2) := by decide +kernel
theorem dX7_which_37 : decode cX7_which 37 = .ok (.iload 4, 2) := by decide +kernel
theorem dX7_which_39 : decode cX7_which 39 = .ok (.ifCond .lt 50, 3) := by decide +kernel
theorem dX7_which_42 : decode cX7_which 42 = .ok (.iload 5, 2) := by decide +kernel
theorem dX7_which_44 : decode cX7_which 44 = .ok (.aload_n 0, 1) := by decide +kernel
theorem dX7_which_45 : decode cX7_which 45 = .ok (.getfield 74, 3) := by decide +kernel
theorem dX7_which_48 : decode cX7_which 48 = .ok (.arraylength, 1) := by decide +kernel
theorem dX7_which_49 : decode cX7_which 49 = .ok (.if_icmp .ge 40, 3) := by decide +kernel
theorem dX7_which_52 : decode cX7_which 52 = .ok (.aload_n 0, 1) := by decide +kernel
theorem dX7_which_53 : decode cX7_which 53 = .ok (.getfield 74, 3) := by decide +kernel
theorem dX7_which_56 : decode cX7_which 56 = .ok (.iload 5, 2) := by decide +kernel
theorem dX7_which_58 : decode cX7_which 58 = .ok (.iaload, 1) := by decide +kernel
theorem dX7_which_59 : decode cX7_which 59 = .ok (.iload 4, 2) := by decide +kernel
theorem dX7_which_61 : decode cX7_which 61 = .ok (.if_icmp .ne 22, 3) := by decide +kernel
theorem dX7_which_64 : decode cX7_which 64 = .ok (.aload_n 0, 1) := by decide +kernel
theorem dX7_which_65 : decode cX7_which 65 = .ok (.bipush 10, 2) := by decide +kernel
theorem dX7_which_67 : decode cX7_which 67 = .ok (.iload 5, 2) := by decide +kernel
theorem dX7_which_69 : decode cX7_which 69 = .ok (.iconst 4, 1) := by decide +kernel
theorem dX7_which_70 : decode cX7_which 70 = .ok (.idiv, 1) := by decide +kernel
theorem dX7_which_71 : decode cX7_which 71 = .ok (.imul, 1) := by decide +kernel
theorem dX7_which_72 : decode cX7_which 72 = .ok (.iload 5, 2) := by decide +kernel
theorem dX7_which_74 : decode cX7_which 74 = .ok (.iconst 4, 1) := by decide +kernel
theorem dX7_which_75 : decode cX7_which 75 = .ok (.irem, 1) := by decide +kernel
theorem dX7_which_76 : decode cX7_which 76 = .ok (.iadd, 1) := by decide +kernel
theorem dX7_which_77 : decode cX7_which 77 = .ok (.iload 4, 2) := by decide +kernel
theorem dX7_which_79 : decode cX7_which 79 = .ok (.invokevirtual 117, 3) := by decide +kernel
theorem dX7_which_82 : decode cX7_which 82 = .ok (.ireturn, 1) := by decide +kernel
theorem dX7_which_83 : decode cX7_which 83 = .ok (.iinc 5 1, 3) := by decide +kernel
theorem dX7_which_86 : decode cX7_which 86 = .ok (.goto (-49), 3) := by decide +kernel
theorem dX7_which_89 : decode cX7_which 89 = .ok (.bipush (-9), 2) := by decide +kernel
theorem dX7_which_91 : decode cX7_which 91 = .ok (.ireturn, 1) := by decide +kernel
theorem dX7_odds_0 : decode cX7_odds 0 = .ok (.aload_n 0, 1) := by decide +kernel
theorem dX7_odds_1 : decode cX7_odds 1 = .ok (.iload_n 1, 1) := by decide +kernel
theorem dX7_odds_2 : decode cX7_odds 2 = .ok (.invokevirtual 90, 3) := by decide +kernel
theorem dX7_odds_5 : decode cX7_odds 5 = .ok (.astore_n 3, 1) := by decide +kernel
theorem dX7_odds_6 : decode cX7_odds 6 = .ok (.aload_n 3, 1) := by decide +kernel
theorem dX7_odds_7 : decode cX7_odds 7 = .ok (.ifnull 12, 3) := by decide +kernel
theorem dX7_odds_10 : decode cX7_odds 10 = .ok (.iload_n 2, 1) := by decide +kernel
theorem dX7_odds_11 : decode cX7_odds 11 = .ok (.iconst 0, 1) := by decide +kernel
theorem dX7_odds_12 : decode cX7_odds 12 = .ok (.iconst 3, 1) := by decide +kernel
theorem dX7_odds_13 : decode cX7_odds 13 = .ok (.invokestatic 180, 3) := by decide +kernel
theorem dX7_odds_16 : decode cX7_odds 16 = .ok (.ifCond .ne 5, 3) := by decide +kernel
theorem dX7_odds_19 : decode cX7_odds 19 = .ok (.iconst (-1), 1) := by decide +kernel
theorem dX7_odds_20 : decode cX7_odds 20 = .ok (.ireturn, 1) := by decide +kernel
theorem dX7_odds_21 : decode cX7_odds 21 = .ok (.aload_n 3, 1) := by decide +kernel
theorem dX7_odds_22 : decode cX7_odds 22 = .ok (.invokestatic 343, 3) := by decide +kernel
theorem dX7_odds_25 : decode cX7_odds 25 = .ok (.istore 4, 2) := by decide +kernel
theorem dX7_odds_27 : decode cX7_odds 27 = .ok (.iload 4, 2) := by decide +kernel
theorem dX7_odds_29 : decode cX7_odds 29 = .ok (.ifCond .eq 10, 3) := by decide +kernel
theorem dX7_odds_32 : decode cX7_odds 32 = .ok (.aload_n 0, 1) := by decide +kernel
theorem dX7_odds_33 : decode cX7_odds 33 = .ok (.iload 4, 2) := by decide +kernel
theorem dX7_odds_35 : decode cX7_odds 35 = .ok (.invokevirtual 94, 3) := by decide +kernel
theorem dX7_odds_38 : decode cX7_odds 38 = .ok (.ireturn, 1) := by decide +kernel
theorem dX7_odds_39 : decode cX7_odds 39 = .ok (.aload_n 0, 1) := by decide +kernel
theorem dX7_odds_40 : decode cX7_odds 40 = .ok (.aload_n 3, 1) := by decide +kernel
theorem dX7_odds_41 : decode cX7_odds 41 = .ok (.invokevirtual 347, 3) := by decide +kernel
theorem dX7_odds_44 : decode cX7_odds 44 = .ok (.istore 5, 2) := by decide +kernel
theorem dX7_odds_46 : decode cX7_odds 46 = .ok (.iload 5, 2) := by decide +kernel
theorem dX7_odds_48 : decode cX7_odds 48 = .ok (.ifCond .ge 9, 3) := by decide +kernel
theorem dX7_odds_51 : decode cX7_odds 51 = .ok (.aload_n 0, 1) := by decide +kernel
theorem dX7_odds_52 : decode cX7_odds 52 = .ok (.iconst 4, 1) := by decide +kernel
theorem dX7_odds_53 : decode cX7_odds 53 = .ok (.invokevirtual 94, 3) := by decide +kernel
theorem dX7_odds_56 : decode cX7_odds 56 = .ok (.ireturn, 1) := by decide +kernel
theorem dX7_odds_57 : decode cX7_odds 57 = .ok (.iconst 0, 1) := by decide +kernel
theorem dX7_odds_58 : decode cX7_odds 58 = .ok (.istore 6, 2) := by decide +kernel
theorem dX7_odds_60 : decode cX7_odds 60 = .ok (.iconst 0, 1) := by decide +kernel
theorem dX7_odds_61 : decode cX7_odds 61 = .ok (.istore 7, 2) := by decide +kernel
theorem dX7_odds_63 : decode cX7_odds 63 = .ok (.iconst 0, 1) := by decide +kernel
theorem dX7_odds_64 : decode cX7_odds 64 = .ok (.istore 8, 2) := by decide +kernel
theorem dX7_odds_66 : decode cX7_odds 66 = .ok (.iload 8, 2) := by decide +kernel
theorem dX7_odds_68 : decode cX7_odds 68 = .ok (.aload_n 0, 1) := by decide +kernel
theorem dX7_odds_69 : decode cX7_odds 69 = .ok (.getfield 74, 3) := by decide +kernel
theorem dX7_odds_72 : decode cX7_odds 72 = .ok (.arraylength, 1) := by decide +kernel
theorem dX7_odds_73 : decode cX7_odds 73 = .ok (.if_icmp .ge 42, 3) := by decide +kernel
theorem dX7_odds_76 : decode cX7_odds 76 = .ok (.aload_n 0, 1) := by decide +kernel
theorem dX7_odds_77 : decode cX7_odds 77 = .ok (.getfield 74, 3) := by decide +kernel
theorem dX7_odds_80 : decode cX7_odds 80 = .ok (.iload 8, 2) := by decide +kernel
theorem dX7_odds_82 : decode cX7_odds 82 = .ok (.iaload, 1) := by decide +kernel
theorem dX7_odds_83 : decode cX7_odds 83 = .ok (.iload 5, 2) := by decide +kernel
theorem dX7_odds_85 : decode cX7_odds 85 = .ok (.if_icmp .ne 24, 3) := by decide +kernel
theorem dX7_odds_88 : decode cX7_odds 88 = .ok (.iinc 6 1, 3) := by decide +kernel
theorem dX7_odds_91 : decode cX7_odds 91 = .ok (.iload 7, 2) := by decide +kernel
theorem dX7_odds_93 : decode cX7_odds 93 = .ok (.iload 8, 2) := by decide +kernel
theorem dX7_odds_95 : decode cX7_odds 95 = .ok (.iconst 4, 1) := by decide +kernel
theorem dX7_odds_96 : decode cX7_odds 96 = .ok (.irem, 1) := by decide +kernel
theorem dX7_odds_97 : decode cX7_odds 97 = .ok (.iload_n 2, 1) := by decide +kernel
theorem dX7_odds_98 : decode cX7_odds 98 = .ok (.if_icmp .ne 7, 3) := by decide +kernel
theorem dX7_odds_101 : decode cX7_odds 101 = .ok (.iconst 1, 1) := by decide +kernel
theorem dX7_odds_102 : decode cX7_odds 102 = .ok (.goto 4, 3) := by decide +kernel
theorem dX7_odds_105 : decode cX7_odds 105 = .ok (.iconst 0, 1) := by decide +kernel
theorem dX7_odds_106 : decode cX7_odds 106 = .ok (.iadd, 1) := by decide +kernel
theorem dX7_odds_107 : decode cX7_odds 107 = .ok (.istore 7, 2) := by decide +kernel
theorem dX7_odds_109 : decode cX7_odds 109 = .ok (.iinc 8 1, 3) := by decide +kernel
theorem dX7_odds_112 : decode cX7_odds 112 = .ok (.goto (-46), 3) := by decide +kernel
theorem dX7_odds_115 : decode cX7_odds 115 = .ok (.aload_n 0, 1) := by decide +kernel
theorem dX7_odds_116 : decode cX7_odds 116 = .ok (.iload 7, 2) := by decide +kernel
theorem dX7_odds_118 : decode cX7_odds 118 = .ok (.iload 6, 2) := by decide +kernel
theorem dX7_odds_120 : decode cX7_odds 120 = .ok (.invokevirtual 350, 3) := by decide +kernel
theorem dX7_odds_123 : decode cX7_odds 123 = .ok (.iload 6, 2) := by decide +kernel
theorem dX7_odds_125 : decode cX7_odds 125 = .ok (.ireturn, 1) := by decide +kernel
def f_X7_asked  (G : G_) : Option Int32 :=
  some (G.1 0 16)
set_option maxHeartbeats 4000000 in
set_option maxRecDepth 100000 in
theorem c_X7_asked (l : Launch) (V : VT)  (G : G_) (r : Int32) (hf : f_X7_asked  G = some r) : MC l V yX7_asked cX7_asked 1 (some .int) 0 0 [.ref (V.2.2.1 0)] G (some (.int r)) G := by
  refine mc_of (by decide) (Nat.le_of_ble_eq_true rfl) (fun K hV ho hc hkl => ?_)
  subst hV
  replace hc : Ok K cX7_asked RX7 (Cond.code yX7_asked cX7_asked 1 (some .int) :: TB) (some .int) 0 0 1 := hc
  replace ho : Rets K (some (.int r)) G := ho
  show X K 0 [(0, .ref (kad K 0))] [] G
  unfold f_X7_asked at hf
  refine x_aload_n hc 0 dX7_asked_0 rfl rfl ?_
  refine x_getI (T := TX7) (p0 := 0) hc in_X7 rfl (by decide) (rfl : kd 0 = 7) 16 (by decide) tw_256 rfl rfl dX7_asked_1 ?_
  cases hf
  exact x_iret hc rfl ho dX7_asked_4
def f_X7_upper  (G : G_) : Option Int64 :=
  some (G.2 0 17)
set_option maxHeartbeats 4000000 in
set_option maxRecDepth 100000 in
theorem c_X7_upper (l : Launch) (V : VT)  (G : G_) (r : Int64) (hf : f_X7_upper  G = some r) : MC l V yX7_upper cX7_upper 1 (some .long) 0 0 [.ref (V.2.2.1 0)] G (some (.long r)) G := by
  refine mc_of (by decide) (Nat.le_of_ble_eq_true rfl) (fun K hV ho hc hkl => ?_)
  subst hV
  replace hc : Ok K cX7_upper RX7 (Cond.code yX7_upper cX7_upper 1 (some .long) :: TB) (some .long) 0 0 1 := hc
  replace ho : Rets K (some (.long r)) G := ho
  show X K 0 [(0, .ref (kad K 0))] [] G
  unfold f_X7_upper at hf
  refine x_aload_n hc 0 dX7_upper_0 rfl rfl ?_
  refine x_getL (T := TX7) (p0 := 0) hc in_X7 rfl (by decide) (rfl : kd 0 = 7) 17 (by decide) tw_257 rfl rfl dX7_upper_1 ?_
  cases hf
  exact x_lret hc rfl ho dX7_upper_4
def f_X7_found (a1 : Int32) (G : G_) : Option (Int32 × G_) :=
  nm (sI G 0 15 a1) fun G1 =>
  if a1 < 0 then (
    some ((-3), G1))
  else (
    if 6 ≤ a1 then (
      some ((-3), G1))
    else (
      chk (inb a1 6) <|
      chk (inb a1 6) <|
      nm (sI G1 50 (ix a1) ((G1.1 50 (ix a1)) + 1)) fun G4 =>
      some ((-3), G4)))
set_option maxHeartbeats 4000000 in
set_option maxRecDepth 100000 in
theorem c_X7_found (l : Launch) (V : VT) (a1 : Int32) (G : G_) (r : Int32) (G' : G_) (hf : f_X7_found a1 G = some (r, G')) : MC l V yX7_found cX7_found 2 (some .int) 0 0 [.ref (V.2.2.1 0), .int a1] G (some (.int r)) G' := by
  refine mc_of (by decide) (Nat.le_of_ble_eq_true rfl) (fun K hV ho hc hkl => ?_)
  subst hV
  replace hc : Ok K cX7_found RX7 (Cond.code yX7_found cX7_found 2 (some .int) :: TB) (some .int) 0 0 2 := hc
  replace ho : Rets K (some (.int r)) G' := ho
  show X K 0 [(0, .ref (kad K 0)), (1, .int a1)] [] G
  unfold f_X7_found at hf
  refine x_aload_n hc 0 dX7_found_0 rfl rfl ?_
  refine x_iload_n hc 1 dX7_found_1 rfl rfl ?_
  refine x_putI (T := TX7) (p0 := 0) hc tyX7 tyX7_ok nmX7 in_X7 rfl (by decide) (rfl : kd 0 = 7) 15 (by decide) tw_255 rfl rfl rfl (by decide +kernel) dX7_found_2 ?_
  refine x_nmg (fun G1 e_G1 => ?_)
  replace hf := nm_ok hf G1 e_G1
  refine x_iload_n hc 1 dX7_found_5 rfl rfl ?_
  refine x_if_lt (tgt := 28) hc dX7_found_6 rfl (fun c_6 => ?_) (fun c_6 => ?_)
  · replace hf := if_p hf c_6
    refine x_bipush (v := (-3)) hc rfl dX7_found_28 ?_
    cases hf
    exact x_iret hc rfl ho dX7_found_30
  · replace hf := if_n hf c_6
    refine x_iload_n hc 1 dX7_found_9 rfl rfl ?_
    refine x_aload_n hc 0 dX7_found_10 rfl rfl ?_
    refine x_getR (T := TX7) (p0 := 0) hc in_X7 rfl (by decide) (rfl : kd 0 = 7) 14 (by decide) tw_254 rfl rfl dX7_found_11 ?_
    refine x_alenI (p0 := 50) (v := 6) hc (sh_X7_findings (rfl : kd 0 = 7)).1 (by decide) (by decide) (sh_X7_findings (rfl : kd 0 = 7)).2 rfl dX7_found_14 ?_
    refine x_icmp_ge (tgt := 28) hc dX7_found_15 rfl (fun c_15 => ?_) (fun c_15 => ?_)
    · replace hf := if_p hf c_15
      refine x_bipush (v := (-3)) hc rfl dX7_found_28 ?_
      cases hf
      exact x_iret hc rfl ho dX7_found_30
    · replace hf := if_n hf c_15
      refine x_aload_n hc 0 dX7_found_18 rfl rfl ?_
      refine x_getR (T := TX7) (p0 := 0) hc in_X7 rfl (by decide) (rfl : kd 0 = 7) 14 (by decide) tw_254 rfl rfl dX7_found_19 ?_
      refine x_iload_n hc 1 dX7_found_22 rfl rfl ?_
      refine x_dup2 hc rfl rfl dX7_found_23 ?_
      obtain ⟨h2, hf⟩ := chk_ok hf
      refine x_iaload (p0 := 50) hc (sh_X7_findings (rfl : kd 0 = 7)).1 (sh_X7_findings (rfl : kd 0 = 7)).2 h2 dX7_found_24 ?_
      refine x_iconst (v := 1) hc rfl dX7_found_25 ?_
      refine x_iadd hc dX7_found_26 ?_
      obtain ⟨h3, hf⟩ := chk_ok hf
      refine x_iastore (p0 := 50) hc (sh_X7_findings (rfl : kd 0 = 7)).1 (sh_X7_findings (rfl : kd 0 = 7)).2 h3 dX7_found_27 ?_
      refine x_nmg (fun G4 e_G4 => ?_)
      replace hf := nm_ok hf G4 e_G4
      refine x_bipush (v := (-3)) hc rfl dX7_found_28 ?_
      cases hf
      exact x_iret hc rfl ho dX7_found_30
def f_X7_told (a1 : Int32) (a2 : Int32) (G : G_) : Option (Int32 × G_) :=
  nm (sI G 0 16 a2) fun G1 =>
  some (a1, G1)
set_option maxHeartbeats 4000000 in
set_option maxRecDepth 100000 in
theorem c_X7_told (l : Launch) (V : VT) (a1 : Int32) (a2 : Int32) (G : G_) (r : Int32) (G' : G_) (hf : f_X7_told a1 a2 G = some (r, G')) : MC l V yX7_told cX7_told 3 (some .int) 0 0 [.ref (V.2.2.1 0), .int a1, .int a2] G (some (.int r)) G' := by
  refine mc_of (by decide) (Nat.le_of_ble_eq_true rfl) (fun K hV ho hc hkl => ?_)
  subst hV
  replace hc : Ok K cX7_told RX7 (Cond.code yX7_told cX7_told 3 (some .int) :: TB) (some .int) 0 0 3 := hc
  replace ho : Rets K (some (.int r)) G' := ho
  show X K 0 [(0, .ref (kad K 0)), (1, .int a1), (2, .int a2)] [] G
  unfold f_X7_told at hf
  refine x_aload_n hc 0 dX7_told_0 rfl rfl ?_
  refine x_iload_n hc 2 dX7_told_1 rfl rfl ?_
  refine x_putI (T := TX7) (p0 := 0) hc tyX7 tyX7_ok nmX7 in_X7 rfl (by decide) (rfl : kd 0 = 7) 16 (by decide) tw_256 rfl rfl rfl (by decide +kernel) dX7_told_2 ?_
  refine x_nmg (fun G1 e_G1 => ?_)
  replace hf := nm_ok hf G1 e_G1
  refine x_iload_n hc 1 dX7_told_5 rfl rfl ?_
  cases hf
  exact x_iret hc rfl ho dX7_told_6
def f_X7_tellFraction_l8_4 (a1 : Int32) (a2 : Int32) (G : G_) : Nat → Int32 → Int32 → Int32 → Option (Int32)
  | 0, _, _, _ => none
  | n4 + 1, v1, v2, v3 =>
    if 64 ≤ v3 then (
      some (v1))
    else (
      if v2 = 0 then (
        some (v1))
      else (
        chk (v2 != 0) <|
        f_X7_tellFraction_l8_4 a1 a2 G n4 v2 (v1 - v1 / v2 * v2) (v3 + 1)))
def f_X7_tellFraction (a1 : Int32) (a2 : Int32) (G : G_) : Option G_ :=
  bj1 (f_X7_tellFraction_l8_4 a1 a2 G FU a1 a2 0) fun x6 =>
  bj1 (
    if x6 = 0 then (
      some (0))
    else (
      chk (x6 != 0) <|
      some ((a1 / x6).toInt64))) fun (w9 : Int64) =>
  nm (sJ G 0 17 w9) fun G10 =>
  if x6 = 0 then (
    nm (sJ G10 0 18 1) fun G13 =>
    some G13)
  else (
    chk (x6 != 0) <|
    nm (sJ G10 0 18 ((a2 / x6).toInt64)) fun G12 =>
    some G12)
set_option maxHeartbeats 4000000 in
set_option maxRecDepth 100000 in
theorem c_X7_tellFraction_l8_4 {K : CT} (a1 : Int32) (a2 : Int32) (G : G_) (hc : Ok K cX7_tellFraction RX7 (Cond.code yX7_tellFraction cX7_tellFraction 7 none :: TB) none 0 0 7)  : ∀ (n4 : Nat) (v1 : Int32) (v2 : Int32) (v3 : Int32) (x6 : Int32), f_X7_tellFraction_l8_4 a1 a2 G n4 v1 v2 v3 = some (x6) → X K 39 [(0, .ref (kad K 0)), (1, .int a1), (2, .int a2), (3, .int x6)] [] G → X K 8 [(0, .ref (kad K 0)), (1, .int a1), (2, .int a2), (3, .int v1), (4, .int v2), (5, .int v3)] [] G := by
  intro n4
  induction n4 with
  | zero =>
    intro v1 v2 v3 x6 hf hk
    cases hf
  | succ n4 ih =>
    intro v1 v2 v3 x6 hf hk
    unfold f_X7_tellFraction_l8_4 at hf
    refine x_iload hc 5 dX7_tellFraction_8 rfl ?_
    refine x_bipush (v := 64) hc rfl dX7_tellFraction_10 ?_
    refine x_icmp_ge (tgt := 39) hc dX7_tellFraction_12 rfl (fun c_12 => ?_) (fun c_12 => ?_)
    · replace hf := if_p hf c_12
      cases hf
      exact x_sub [0, 1, 2, 3] hk rfl
    · replace hf := if_n hf c_12
      refine x_iload hc 4 dX7_tellFraction_15 rfl ?_
      refine x_if_eq (tgt := 39) hc dX7_tellFraction_17 rfl (fun c_17 => ?_) (fun c_17 => ?_)
      · replace hf := if_p hf c_17
        cases hf
        exact x_sub [0, 1, 2, 3] hk rfl
      · replace hf := if_n hf c_17
        refine x_iload_n hc 3 dX7_tellFraction_20 rfl rfl ?_
        refine x_iload hc 4 dX7_tellFraction_21 rfl ?_
        obtain ⟨h5, hf⟩ := chk_ok hf
        refine x_irem hc (by simpa using h5) dX7_tellFraction_23 ?_
        refine x_istore (L' := [(0, .ref (kad K 0)), (1, .int a1), (2, .int a2), (4, .int v2), (5, .int v3), (6, .int (v1 - v1 / v2 * v2))]) hc [1, 2, 3, 5, 6, 0] dX7_tellFraction_24 (by decide) rfl ?_
        refine x_iload hc 3 dX7_tellFraction_26 rfl ?_
        refine x_istore_n (L' := [(0, .ref (kad K 0)), (1, .int a1), (2, .int a2), (3, .int v2), (5, .int v3), (6, .int (v1 - v1 / v2 * v2))]) hc [1, 2, 3, 0, 5, 6] dX7_tellFraction_28 rfl (by decide) rfl ?_
        refine x_iload hc 5 dX7_tellFraction_29 rfl ?_
        refine x_istore (L' := [(0, .ref (kad K 0)), (1, .int a1), (2, .int a2), (3, .int v2), (4, .int (v1 - v1 / v2 * v2)), (5, .int v3)]) hc [1, 2, 3, 4, 0, 5] dX7_tellFraction_31 (by decide) rfl ?_
        refine x_iinc (v := v3 + 1) (L' := [(0, .ref (kad K 0)), (1, .int a1), (2, .int a2), (3, .int v2), (4, .int (v1 - v1 / v2 * v2)), (5, .int (v3 + 1))]) hc 5 [1, 2, 3, 4, 5, 0] dX7_tellFraction_33 rfl rfl (by decide) rfl ?_
        refine x_goto (tgt := 8) hc dX7_tellFraction_36 rfl ?_
        exact x_sub [0, 1, 2, 3, 4, 5] (ih _ _ _ _ hf hk) rfl
set_option maxHeartbeats 4000000 in
set_option maxRecDepth 100000 in
theorem c_X7_tellFraction (l : Launch) (V : VT) (a1 : Int32) (a2 : Int32) (G : G_) (G' : G_) (hf : f_X7_tellFraction a1 a2 G = some G') : MC l V yX7_tellFraction cX7_tellFraction 7 none 0 0 [.ref (V.2.2.1 0), .int a1, .int a2] G none G' := by
  refine mc_of (by decide) (Nat.le_of_ble_eq_true rfl) (fun K hV ho hc hkl => ?_)
  subst hV
  replace hc : Ok K cX7_tellFraction RX7 (Cond.code yX7_tellFraction cX7_tellFraction 7 none :: TB) none 0 0 7 := hc
  replace ho : Rets K none G' := ho
  show X K 0 [(0, .ref (kad K 0)), (1, .int a1), (2, .int a2)] [] G
  unfold f_X7_tellFraction at hf
  refine x_iload_n hc 1 dX7_tellFraction_0 rfl rfl ?_
  refine x_istore_n (L' := [(0, .ref (kad K 0)), (1, .int a1), (2, .int a2), (3, .int a1)]) hc [1, 2, 3, 0] dX7_tellFraction_1 rfl (by decide) rfl ?_
  refine x_iload_n hc 2 dX7_tellFraction_2 rfl rfl ?_
  refine x_istore (L' := [(0, .ref (kad K 0)), (1, .int a1), (2, .int a2), (3, .int a1), (4, .int a2)]) hc [1, 2, 3, 4, 0] dX7_tellFraction_3 (by decide) rfl ?_
  refine x_iconst (v := 0) hc rfl dX7_tellFraction_5 ?_
  refine x_istore (L' := [(0, .ref (kad K 0)), (1, .int a1), (2, .int a2), (3, .int a1), (4, .int a2), (5, .int 0)]) hc [1, 2, 3, 4, 5, 0] dX7_tellFraction_6 (by decide) rfl ?_
  obtain ⟨x6, hl_8, hf⟩ := bj1_ok hf
  have he_39_n4 : X K 39 [(0, .ref (kad K 0)), (1, .int a1), (2, .int a2), (3, .int x6)] [] G := by
    clear hl_8
    refine x_aload_n hc 0 dX7_tellFraction_39 rfl rfl ?_
    refine x_iload_n hc 3 dX7_tellFraction_40 rfl rfl ?_
    obtain ⟨w9, hr, hf⟩ := bj1_ok hf
    have hj_52_7 : X K 52 [(0, .ref (kad K 0)), (2, .int a2), (3, .int x6)] [.long w9, .ref (kad K 0)] G := by
      clear hr
      refine x_putL (T := TX7) (p0 := 0) hc tyX7 tyX7_ok nmX7 in_X7 rfl (by decide) (rfl : kd 0 = 7) 17 (by decide) tw_257 rfl rfl rfl (by decide +kernel) dX7_tellFraction_52 ?_
      refine x_nmg (fun G10 e_G10 => ?_)
      replace hf := nm_ok hf G10 e_G10
      refine x_aload_n hc 0 dX7_tellFraction_55 rfl rfl ?_
      refine x_iload_n hc 2 dX7_tellFraction_56 rfl rfl ?_
      refine x_if_ne (tgt := 64) hc dX7_tellFraction_57 rfl (fun c_57 => ?_) (fun c_57 => ?_)
      · replace hf := if_n hf c_57
        refine x_iload_n hc 1 dX7_tellFraction_64 rfl rfl ?_
        refine x_iload_n hc 2 dX7_tellFraction_65 rfl rfl ?_
        obtain ⟨h11, hf⟩ := chk_ok hf
        refine x_idiv hc (by simpa using h11) dX7_tellFraction_66 ?_
        refine x_i2l hc dX7_tellFraction_67 ?_
        refine x_putL (T := TX7) (p0 := 0) hc tyX7 tyX7_ok nmX7 in_X7 rfl (by decide) (rfl : kd 0 = 7) 18 (by decide) tw_258 rfl rfl rfl (by decide +kernel) dX7_tellFraction_68 ?_
        refine x_nmg (fun G12 e_G12 => ?_)
        replace hf := nm_ok hf G12 e_G12
        cases hf
        exact x_vret hc rfl ho dX7_tellFraction_71
      · replace hf := if_p hf c_57
        refine x_lconst (v := 1) hc rfl dX7_tellFraction_60 ?_
        refine x_goto (tgt := 68) hc dX7_tellFraction_61 rfl ?_
        refine x_putL (T := TX7) (p0 := 0) hc tyX7 tyX7_ok nmX7 in_X7 rfl (by decide) (rfl : kd 0 = 7) 18 (by decide) tw_258 rfl rfl rfl (by decide +kernel) dX7_tellFraction_68 ?_
        refine x_nmg (fun G13 e_G13 => ?_)
        replace hf := nm_ok hf G13 e_G13
        cases hf
        exact x_vret hc rfl ho dX7_tellFraction_71
    replace hf := hr
    clear hr
    refine x_if_ne (tgt := 48) hc dX7_tellFraction_41 rfl (fun c_41 => ?_) (fun c_41 => ?_)
    · replace hf := if_n hf c_41
      refine x_iload_n hc 1 dX7_tellFraction_48 rfl rfl ?_
      refine x_iload_n hc 3 dX7_tellFraction_49 rfl rfl ?_
      obtain ⟨h8, hf⟩ := chk_ok hf
      refine x_idiv hc (by simpa using h8) dX7_tellFraction_50 ?_
      refine x_i2l hc dX7_tellFraction_51 ?_
      cases hf
      exact x_sub [0, 2, 3] hj_52_7 rfl
    · replace hf := if_p hf c_41
      refine x_lconst (v := 0) hc rfl dX7_tellFraction_44 ?_
      refine x_goto (tgt := 52) hc dX7_tellFraction_45 rfl ?_
      cases hf
      exact x_sub [0, 2, 3] hj_52_7 rfl
  exact x_sub [0, 1, 2, 3, 4, 5] (c_X7_tellFraction_l8_4 a1 a2 G hc  FU a1 a2 0 x6 hl_8 he_39_n4) rfl
def f_X7_rowAt (a1 : Int32) (G : G_) : Option (Option Nat) :=
  if a1 < 0 then (
    some none)
  else (
    if 6 ≤ a1 then (
      some none)
    else (
      chk (inb a1 6) <|
      nm (rb 14 + rs 14 * ix a1) fun p2 =>
      chk (kd p2 == 4) <|
      some (some p2)))
set_option maxHeartbeats 4000000 in
set_option maxRecDepth 100000 in
theorem c_X7_rowAt (l : Launch) (V : VT) (a1 : Int32) (G : G_) (r : Option Nat) (hf : f_X7_rowAt a1 G = some r) : MC l V yX7_rowAt cX7_rowAt 2 (some (.object "SlabTurn$Row")) 0 0 [.ref (V.2.2.1 0), .int a1] G (some (va_rf (r.map V.2.2.1))) G := by
  refine mc_of (by decide) (Nat.le_of_ble_eq_true rfl) (fun K hV ho hc hkl => ?_)
  subst hV
  replace hc : Ok K cX7_rowAt RX7 (Cond.code yX7_rowAt cX7_rowAt 2 (some (.object "SlabTurn$Row")) :: TB) (some (.object "SlabTurn$Row")) 0 0 2 := hc
  replace ho : Rets K (some (rfo K r)) G := ho
  show X K 0 [(0, .ref (kad K 0)), (1, .int a1)] [] G
  unfold f_X7_rowAt at hf
  refine x_iload_n hc 1 dX7_rowAt_0 rfl rfl ?_
  refine x_if_lt (tgt := 22) hc dX7_rowAt_1 rfl (fun c_1 => ?_) (fun c_1 => ?_)
  · replace hf := if_p hf c_1
    refine x_null hc dX7_rowAt_22 ?_
    cases hf
    exact x_aret (q := none) hc rfl ho dX7_rowAt_23
  · replace hf := if_n hf c_1
    refine x_iload_n hc 1 dX7_rowAt_4 rfl rfl ?_
    refine x_aload_n hc 0 dX7_rowAt_5 rfl rfl ?_
    refine x_getR (T := TX7) (p0 := 0) hc in_X7 rfl (by decide) (rfl : kd 0 = 7) 0 (by decide) tw_240 rfl rfl dX7_rowAt_6 ?_
    refine x_alenQ (p0 := 1) (v := 6) hc (sh_X7_rows (rfl : kd 0 = 7)).1 (by decide) (by decide) (sh_X7_rows (rfl : kd 0 = 7)).2 rfl dX7_rowAt_9 ?_
    refine x_icmp_ge (tgt := 22) hc dX7_rowAt_10 rfl (fun c_10 => ?_) (fun c_10 => ?_)
    · replace hf := if_p hf c_10
      refine x_null hc dX7_rowAt_22 ?_
      cases hf
      exact x_aret (q := none) hc rfl ho dX7_rowAt_23
    · replace hf := if_n hf c_10
      refine x_aload_n hc 0 dX7_rowAt_13 rfl rfl ?_
      refine x_getR (T := TX7) (p0 := 0) hc in_X7 rfl (by decide) (rfl : kd 0 = 7) 0 (by decide) tw_240 rfl rfl dX7_rowAt_14 ?_
      refine x_iload_n hc 1 dX7_rowAt_17 rfl rfl ?_
      obtain ⟨h1, hf⟩ := chk_ok hf
      refine x_aaload (p0 := 1) (C := "SlabTurn$Row") hc (sh_X7_rows (rfl : kd 0 = 7)).1 (by decide) (by decide) (fun _ => rfl) rfl (sh_X7_rows (rfl : kd 0 = 7)).2 h1 dX7_rowAt_18 ?_
      refine x_nmp (fun p2 e_p2 => ?_)
      replace hf := nm_ok hf p2 e_p2
      obtain ⟨k3, hf⟩ := chk_ok hf
      refine x_goto (tgt := 23) hc dX7_rowAt_19 rfl ?_
      cases hf
      exact x_aret (q := (some p2)) hc rfl ho dX7_rowAt_23
def f_X7_textAt (a1 : Int32) (G : G_) : Option (Option Nat) :=
  if a1 < 0 then (
    some none)
  else (
    if 4 ≤ a1 then (
      some none)
    else (
      chk (inb a1 4) <|
      nm (rb 16 + rs 16 * ix a1) fun p2 =>
      chk (kd p2 == 6) <|
      some (some p2)))
set_option maxHeartbeats 4000000 in
set_option maxRecDepth 100000 in
theorem c_X7_textAt (l : Launch) (V : VT) (a1 : Int32) (G : G_) (r : Option Nat) (hf : f_X7_textAt a1 G = some r) : MC l V yX7_textAt cX7_textAt 2 (some (.object "SlabTurn$Text")) 0 0 [.ref (V.2.2.1 0), .int a1] G (some (va_rf (r.map V.2.2.1))) G := by
  refine mc_of (by decide) (Nat.le_of_ble_eq_true rfl) (fun K hV ho hc hkl => ?_)
  subst hV
  replace hc : Ok K cX7_textAt RX7 (Cond.code yX7_textAt cX7_textAt 2 (some (.object "SlabTurn$Text")) :: TB) (some (.object "SlabTurn$Text")) 0 0 2 := hc
  replace ho : Rets K (some (rfo K r)) G := ho
  show X K 0 [(0, .ref (kad K 0)), (1, .int a1)] [] G
  unfold f_X7_textAt at hf
  refine x_iload_n hc 1 dX7_textAt_0 rfl rfl ?_
  refine x_if_lt (tgt := 22) hc dX7_textAt_1 rfl (fun c_1 => ?_) (fun c_1 => ?_)
  · replace hf := if_p hf c_1
    refine x_null hc dX7_textAt_22 ?_
    cases hf
    exact x_aret (q := none) hc rfl ho dX7_textAt_23
  · replace hf := if_n hf c_1
    refine x_iload_n hc 1 dX7_textAt_4 rfl rfl ?_
    refine x_aload_n hc 0 dX7_textAt_5 rfl rfl ?_
    refine x_getR (T := TX7) (p0 := 0) hc in_X7 rfl (by decide) (rfl : kd 0 = 7) 1 (by decide) tw_241 rfl rfl dX7_textAt_6 ?_
    refine x_alenQ (p0 := 2) (v := 4) hc (sh_X7_texts (rfl : kd 0 = 7)).1 (by decide) (by decide) (sh_X7_texts (rfl : kd 0 = 7)).2 rfl dX7_textAt_9 ?_
    refine x_icmp_ge (tgt := 22) hc dX7_textAt_10 rfl (fun c_10 => ?_) (fun c_10 => ?_)
    · replace hf := if_p hf c_10
      refine x_null hc dX7_textAt_22 ?_
      cases hf
      exact x_aret (q := none) hc rfl ho dX7_textAt_23
    · replace hf := if_n hf c_10
      refine x_aload_n hc 0 dX7_textAt_13 rfl rfl ?_
      refine x_getR (T := TX7) (p0 := 0) hc in_X7 rfl (by decide) (rfl : kd 0 = 7) 1 (by decide) tw_241 rfl rfl dX7_textAt_14 ?_
      refine x_iload_n hc 1 dX7_textAt_17 rfl rfl ?_
      obtain ⟨h1, hf⟩ := chk_ok hf
      refine x_aaload (p0 := 2) (C := "SlabTurn$Text") hc (sh_X7_texts (rfl : kd 0 = 7)).1 (by decide) (by decide) (fun _ => rfl) rfl (sh_X7_texts (rfl : kd 0 = 7)).2 h1 dX7_textAt_18 ?_
      refine x_nmp (fun p2 e_p2 => ?_)
      replace hf := nm_ok hf p2 e_p2
      obtain ⟨k3, hf⟩ := chk_ok hf
      refine x_goto (tgt := 23) hc dX7_textAt_19 rfl ?_
      cases hf
      exact x_aret (q := (some p2)) hc rfl ho dX7_textAt_23
def f_X7_slabAt (a1 : Int32) (G : G_) : Option (Option Nat) :=
  if a1 < 0 then (
    some none)
  else (
    if 4 ≤ a1 then (
      some none)
    else (
      chk (inb a1 4) <|
      nm (rb 15 + rs 15 * ix a1) fun p2 =>
      chk (kd p2 == 5) <|
      some (some p2)))
set_option maxHeartbeats 4000000 in
set_option maxRecDepth 100000 in
theorem c_X7_slabAt (l : Launch) (V : VT) (a1 : Int32) (G : G_) (r : Option Nat) (hf : f_X7_slabAt a1 G = some r) : MC l V yX7_slabAt cX7_slabAt 2 (some (.object "SlabTurn$Slab")) 0 0 [.ref (V.2.2.1 0), .int a1] G (some (va_rf (r.map V.2.2.1))) G := by
  refine mc_of (by decide) (Nat.le_of_ble_eq_true rfl) (fun K hV ho hc hkl => ?_)
  subst hV
  replace hc : Ok K cX7_slabAt RX7 (Cond.code yX7_slabAt cX7_slabAt 2 (some (.object "SlabTurn$Slab")) :: TB) (some (.object "SlabTurn$Slab")) 0 0 2 := hc
  replace ho : Rets K (some (rfo K r)) G := ho
  show X K 0 [(0, .ref (kad K 0)), (1, .int a1)] [] G
  unfold f_X7_slabAt at hf
  refine x_iload_n hc 1 dX7_slabAt_0 rfl rfl ?_
  refine x_if_lt (tgt := 22) hc dX7_slabAt_1 rfl (fun c_1 => ?_) (fun c_1 => ?_)
  · replace hf := if_p hf c_1
    refine x_null hc dX7_slabAt_22 ?_
    cases hf
    exact x_aret (q := none) hc rfl ho dX7_slabAt_23
  · replace hf := if_n hf c_1
    refine x_iload_n hc 1 dX7_slabAt_4 rfl rfl ?_
    refine x_aload_n hc 0 dX7_slabAt_5 rfl rfl ?_
    refine x_getR (T := TX7) (p0 := 0) hc in_X7 rfl (by decide) (rfl : kd 0 = 7) 2 (by decide) tw_242 rfl rfl dX7_slabAt_6 ?_
    refine x_alenQ (p0 := 3) (v := 4) hc (sh_X7_slabs (rfl : kd 0 = 7)).1 (by decide) (by decide) (sh_X7_slabs (rfl : kd 0 = 7)).2 rfl dX7_slabAt_9 ?_
    refine x_icmp_ge (tgt := 22) hc dX7_slabAt_10 rfl (fun c_10 => ?_) (fun c_10 => ?_)
    · replace hf := if_p hf c_10
      refine x_null hc dX7_slabAt_22 ?_
      cases hf
      exact x_aret (q := none) hc rfl ho dX7_slabAt_23
    · replace hf := if_n hf c_10
      refine x_aload_n hc 0 dX7_slabAt_13 rfl rfl ?_
      refine x_getR (T := TX7) (p0 := 0) hc in_X7 rfl (by decide) (rfl : kd 0 = 7) 2 (by decide) tw_242 rfl rfl dX7_slabAt_14 ?_
      refine x_iload_n hc 1 dX7_slabAt_17 rfl rfl ?_
      obtain ⟨h1, hf⟩ := chk_ok hf
      refine x_aaload (p0 := 3) (C := "SlabTurn$Slab") hc (sh_X7_slabs (rfl : kd 0 = 7)).1 (by decide) (by decide) (fun _ => rfl) rfl (sh_X7_slabs (rfl : kd 0 = 7)).2 h1 dX7_slabAt_18 ?_
      refine x_nmp (fun p2 e_p2 => ?_)
      replace hf := nm_ok hf p2 e_p2
      obtain ⟨k3, hf⟩ := chk_ok hf
      refine x_goto (tgt := 23) hc dX7_slabAt_19 rfl ?_
      cases hf
      exact x_aret (q := (some p2)) hc rfl ho dX7_slabAt_23
def f_X7_planAt (a1 : Int32) (G : G_) : Option (Option Nat) :=
  if a1 < 0 then (
    some none)
  else (
    if 4 ≤ a1 then (
      some none)
    else (
      chk (inb a1 4) <|
      nm (rb 13 + rs 13 * ix a1) fun p2 =>
      chk (kd p2 == 2) <|
      some (some p2)))
set_option maxHeartbeats 4000000 in
set_option maxRecDepth 100000 in
theorem c_X7_planAt (l : Launch) (V : VT) (a1 : Int32) (G : G_) (r : Option Nat) (hf : f_X7_planAt a1 G = some r) : MC l V yX7_planAt cX7_planAt 2 (some (.object "SlabTurn$Plan")) 0 0 [.ref (V.2.2.1 0), .int a1] G (some (va_rf (r.map V.2.2.1))) G := by
  refine mc_of (by decide) (Nat.le_of_ble_eq_true rfl) (fun K hV ho hc hkl => ?_)
  subst hV
  replace hc : Ok K cX7_planAt RX7 (Cond.code yX7_planAt cX7_planAt 2 (some (.object "SlabTurn$Plan")) :: TB) (some (.object "SlabTurn$Plan")) 0 0 2 := hc
  replace ho : Rets K (some (rfo K r)) G := ho
  show X K 0 [(0, .ref (kad K 0)), (1, .int a1)] [] G
  unfold f_X7_planAt at hf
  refine x_iload_n hc 1 dX7_planAt_0 rfl rfl ?_
  refine x_if_lt (tgt := 22) hc dX7_planAt_1 rfl (fun c_1 => ?_) (fun c_1 => ?_)
  · replace hf := if_p hf c_1
    refine x_null hc dX7_planAt_22 ?_
    cases hf
    exact x_aret (q := none) hc rfl ho dX7_planAt_23
  · replace hf := if_n hf c_1
    refine x_iload_n hc 1 dX7_planAt_4 rfl rfl ?_
    refine x_aload_n hc 0 dX7_planAt_5 rfl rfl ?_
    refine x_getR (T := TX7) (p0 := 0) hc in_X7 rfl (by decide) (rfl : kd 0 = 7) 3 (by decide) tw_243 rfl rfl dX7_planAt_6 ?_
    refine x_alenQ (p0 := 4) (v := 4) hc (sh_X7_plans (rfl : kd 0 = 7)).1 (by decide) (by decide) (sh_X7_plans (rfl : kd 0 = 7)).2 rfl dX7_planAt_9 ?_
    refine x_icmp_ge (tgt := 22) hc dX7_planAt_10 rfl (fun c_10 => ?_) (fun c_10 => ?_)
    · replace hf := if_p hf c_10
      refine x_null hc dX7_planAt_22 ?_
      cases hf
      exact x_aret (q := none) hc rfl ho dX7_planAt_23
    · replace hf := if_n hf c_10
      refine x_aload_n hc 0 dX7_planAt_13 rfl rfl ?_
      refine x_getR (T := TX7) (p0 := 0) hc in_X7 rfl (by decide) (rfl : kd 0 = 7) 3 (by decide) tw_243 rfl rfl dX7_planAt_14 ?_
      refine x_iload_n hc 1 dX7_planAt_17 rfl rfl ?_
      obtain ⟨h1, hf⟩ := chk_ok hf
      refine x_aaload (p0 := 4) (C := "SlabTurn$Plan") hc (sh_X7_plans (rfl : kd 0 = 7)).1 (by decide) (by decide) (fun _ => rfl) rfl (sh_X7_plans (rfl : kd 0 = 7)).2 h1 dX7_planAt_18 ?_
      refine x_nmp (fun p2 e_p2 => ?_)
      replace hf := nm_ok hf p2 e_p2
      obtain ⟨k3, hf⟩ := chk_ok hf
      refine x_goto (tgt := 23) hc dX7_planAt_19 rfl ?_
      cases hf
      exact x_aret (q := (some p2)) hc rfl ho dX7_planAt_23
def f_X7_slabsThere_l13_3 (G : G_) : Nat → Int32 → Int32 → Option (Int32)
  | 0, _, _ => none
  | n3 + 1, v1, v2 =>
    if 4 ≤ v2 then (
      some (v1))
    else (
      chk (inb v2 4) <|
      nm (rb 15 + rs 15 * ix v2) fun p5 =>
      chk (kd p5 == 5) <|
      bj1 (
        if G.1 p5 0 = 0 then (
          some (0))
        else (
          some (1))) fun (x8 : Int32) =>
      f_X7_slabsThere_l13_3 G n3 (v1 + x8) (v2 + 1))
def f_X7_slabsThere  (G : G_) : Option Int32 :=
  bj1 (f_X7_slabsThere_l13_3 G FU 0 0) fun x9 =>
  some x9
set_option maxHeartbeats 4000000 in
set_option maxRecDepth 100000 in
theorem c_X7_slabsThere_l13_3 {K : CT} (G : G_) (hc : Ok K cX7_slabsThere RX7 (Cond.code yX7_slabsThere cX7_slabsThere 6 (some .int) :: TB) (some .int) 0 0 6)  : ∀ (n3 : Nat) (v1 : Int32) (v2 : Int32) (x9 : Int32), f_X7_slabsThere_l13_3 G n3 v1 v2 = some (x9) → X K 52 [(1, .int x9)] [] G → X K 13 [(1, .int v1), (2, .ref (kad K 3)), (3, .int 4), (4, .int v2)] [] G := by
  intro n3
  induction n3 with
  | zero =>
    intro v1 v2 x9 hf hk
    cases hf
  | succ n3 ih =>
    intro v1 v2 x9 hf hk
    unfold f_X7_slabsThere_l13_3 at hf
    refine x_iload hc 3 dX7_slabsThere_13 rfl ?_
    refine x_iload_n hc 2 dX7_slabsThere_15 rfl rfl ?_
    refine x_icmp_ge (tgt := 52) hc dX7_slabsThere_16 rfl (fun c_16 => ?_) (fun c_16 => ?_)
    · replace hf := if_p hf c_16
      cases hf
      exact x_sub [0] hk rfl
    · replace hf := if_n hf c_16
      refine x_aload_n hc 1 dX7_slabsThere_19 rfl rfl ?_
      refine x_iload hc 3 dX7_slabsThere_20 rfl ?_
      obtain ⟨h4, hf⟩ := chk_ok hf
      refine x_aaload (p0 := 3) (C := "SlabTurn$Slab") hc (sh_X7_slabs (rfl : kd 0 = 7)).1 (by decide) (by decide) (fun _ => rfl) rfl (sh_X7_slabs (rfl : kd 0 = 7)).2 h4 dX7_slabsThere_22 ?_
      refine x_nmp (fun p5 e_p5 => ?_)
      replace hf := nm_ok hf p5 e_p5
      obtain ⟨k6, hf⟩ := chk_ok hf
      refine x_astore (L' := [(1, .int v1), (2, .ref (kad K 3)), (3, .int 4), (4, .int v2), (5, .ref (kad K p5))]) hc [1, 2, 3, 4, 0] dX7_slabsThere_23 (by decide) rfl ?_
      refine x_iload_n hc 0 dX7_slabsThere_25 rfl rfl ?_
      refine x_aload hc 4 dX7_slabsThere_26 rfl ?_
      refine x_ifnullR hc dX7_slabsThere_28 ?_
      refine x_aload hc 4 dX7_slabsThere_31 rfl ?_
      refine x_getI (T := TX5) (p0 := p5) hc in_X5 rfl (by decide) (kdb k6) 0 (by decide) tw_169 rfl rfl dX7_slabsThere_33 ?_
      obtain ⟨x8, hr, hf⟩ := bj1_ok hf
      have hj_44_7 : X K 44 [(2, .ref (kad K 3)), (3, .int 4), (4, .int v2)] [.int x8, .int v1] G := by
        clear hr
        refine x_iadd hc dX7_slabsThere_44 ?_
        refine x_istore_n (L' := [(1, .int (v1 + x8)), (2, .ref (kad K 3)), (3, .int 4), (4, .int v2)]) hc [0, 1, 2, 3] dX7_slabsThere_45 rfl (by decide) rfl ?_
        refine x_iinc (v := v2 + 1) (L' := [(1, .int (v1 + x8)), (2, .ref (kad K 3)), (3, .int 4), (4, .int (v2 + 1))]) hc 3 [1, 2, 3, 0] dX7_slabsThere_46 rfl rfl (by decide) rfl ?_
        refine x_goto (tgt := 13) hc dX7_slabsThere_49 rfl ?_
        exact x_sub [0, 1, 2, 3] (ih _ _ _ hf hk) rfl
      replace hf := hr
      clear hr
      refine x_if_eq (tgt := 43) hc dX7_slabsThere_36 rfl (fun c_36 => ?_) (fun c_36 => ?_)
      · replace hf := if_p hf c_36
        refine x_iconst (v := 0) hc rfl dX7_slabsThere_43 ?_
        cases hf
        exact x_sub [1, 2, 3] hj_44_7 rfl
      · replace hf := if_n hf c_36
        refine x_iconst (v := 1) hc rfl dX7_slabsThere_39 ?_
        refine x_goto (tgt := 44) hc dX7_slabsThere_40 rfl ?_
        cases hf
        exact x_sub [1, 2, 3] hj_44_7 rfl
set_option maxHeartbeats 4000000 in
set_option maxRecDepth 100000 in
theorem c_X7_slabsThere (l : Launch) (V : VT)  (G : G_) (r : Int32) (hf : f_X7_slabsThere  G = some r) : MC l V yX7_slabsThere cX7_slabsThere 6 (some .int) 0 0 [.ref (V.2.2.1 0)] G (some (.int r)) G := by
  refine mc_of (by decide) (Nat.le_of_ble_eq_true rfl) (fun K hV ho hc hkl => ?_)
  subst hV
  replace hc : Ok K cX7_slabsThere RX7 (Cond.code yX7_slabsThere cX7_slabsThere 6 (some .int) :: TB) (some .int) 0 0 6 := hc
  replace ho : Rets K (some (.int r)) G := ho
  show X K 0 [(0, .ref (kad K 0))] [] G
  unfold f_X7_slabsThere at hf
  refine x_iconst (v := 0) hc rfl dX7_slabsThere_0 ?_
  refine x_istore_n (L' := [(0, .ref (kad K 0)), (1, .int 0)]) hc [1, 0] dX7_slabsThere_1 rfl (by decide) rfl ?_
  refine x_aload_n hc 0 dX7_slabsThere_2 rfl rfl ?_
  refine x_getR (T := TX7) (p0 := 0) hc in_X7 rfl (by decide) (rfl : kd 0 = 7) 2 (by decide) tw_242 rfl rfl dX7_slabsThere_3 ?_
  refine x_astore_n (L' := [(1, .int 0), (2, .ref (kad K 3))]) hc [2, 0] dX7_slabsThere_6 rfl (by decide) rfl ?_
  refine x_aload_n hc 1 dX7_slabsThere_7 rfl rfl ?_
  refine x_alenQ (p0 := 3) (v := 4) hc (sh_X7_slabs (rfl : kd 0 = 7)).1 (by decide) (by decide) (sh_X7_slabs (rfl : kd 0 = 7)).2 rfl dX7_slabsThere_8 ?_
  refine x_istore_n (L' := [(1, .int 0), (2, .ref (kad K 3)), (3, .int 4)]) hc [1, 2, 0] dX7_slabsThere_9 rfl (by decide) rfl ?_
  refine x_iconst (v := 0) hc rfl dX7_slabsThere_10 ?_
  refine x_istore (L' := [(1, .int 0), (2, .ref (kad K 3)), (3, .int 4), (4, .int 0)]) hc [1, 2, 3, 0] dX7_slabsThere_11 (by decide) rfl ?_
  obtain ⟨x9, hl_13, hf⟩ := bj1_ok hf
  have he_52_n3 : X K 52 [(1, .int x9)] [] G := by
    clear hl_13
    refine x_iload_n hc 0 dX7_slabsThere_52 rfl rfl ?_
    cases hf
    exact x_iret hc rfl ho dX7_slabsThere_53
  exact x_sub [0, 1, 2, 3] (c_X7_slabsThere_l13_3 G hc  FU 0 0 x9 hl_13 he_52_n3) rfl
def f_X7_plansThere_l13_3 (G : G_) : Nat → Int32 → Int32 → Option (Int32)
  | 0, _, _ => none
  | n3 + 1, v1, v2 =>
    if 4 ≤ v2 then (
      some (v1))
    else (
      chk (inb v2 4) <|
      nm (rb 13 + rs 13 * ix v2) fun p5 =>
      chk (kd p5 == 2) <|
      bj1 (
        if G.1 p5 3 = 0 then (
          some (0))
        else (
          some (1))) fun (x8 : Int32) =>
      f_X7_plansThere_l13_3 G n3 (v1 + x8) (v2 + 1))
def f_X7_plansThere  (G : G_) : Option Int32 :=
  bj1 (f_X7_plansThere_l13_3 G FU 0 0) fun x9 =>
  some x9
set_option maxHeartbeats 4000000 in
set_option maxRecDepth 100000 in
theorem c_X7_plansThere_l13_3 {K : CT} (G : G_) (hc : Ok K cX7_plansThere RX7 (Cond.code yX7_plansThere cX7_plansThere 6 (some .int) :: TB) (some .int) 0 0 6)  : ∀ (n3 : Nat) (v1 : Int32) (v2 : Int32) (x9 : Int32), f_X7_plansThere_l13_3 G n3 v1 v2 = some (x9) → X K 52 [(1, .int x9)] [] G → X K 13 [(1, .int v1), (2, .ref (kad K 4)), (3, .int 4), (4, .int v2)] [] G := by
  intro n3
  induction n3 with
  | zero =>
    intro v1 v2 x9 hf hk
    cases hf
  | succ n3 ih =>
    intro v1 v2 x9 hf hk
    unfold f_X7_plansThere_l13_3 at hf
    refine x_iload hc 3 dX7_plansThere_13 rfl ?_
    refine x_iload_n hc 2 dX7_plansThere_15 rfl rfl ?_
    refine x_icmp_ge (tgt := 52) hc dX7_plansThere_16 rfl (fun c_16 => ?_) (fun c_16 => ?_)
    · replace hf := if_p hf c_16
      cases hf
      exact x_sub [0] hk rfl
    · replace hf := if_n hf c_16
      refine x_aload_n hc 1 dX7_plansThere_19 rfl rfl ?_
      refine x_iload hc 3 dX7_plansThere_20 rfl ?_
      obtain ⟨h4, hf⟩ := chk_ok hf
      refine x_aaload (p0 := 4) (C := "SlabTurn$Plan") hc (sh_X7_plans (rfl : kd 0 = 7)).1 (by decide) (by decide) (fun _ => rfl) rfl (sh_X7_plans (rfl : kd 0 = 7)).2 h4 dX7_plansThere_22 ?_
      refine x_nmp (fun p5 e_p5 => ?_)
      replace hf := nm_ok hf p5 e_p5
      obtain ⟨k6, hf⟩ := chk_ok hf
      refine x_astore (L' := [(1, .int v1), (2, .ref (kad K 4)), (3, .int 4), (4, .int v2), (5, .ref (kad K p5))]) hc [1, 2, 3, 4, 0] dX7_plansThere_23 (by decide) rfl ?_
      refine x_iload_n hc 0 dX7_plansThere_25 rfl rfl ?_
      refine x_aload hc 4 dX7_plansThere_26 rfl ?_
      refine x_ifnullR hc dX7_plansThere_28 ?_
      refine x_aload hc 4 dX7_plansThere_31 rfl ?_
      refine x_getI (T := TX2) (p0 := p5) hc in_X2 rfl (by decide) (kdb k6) 3 (by decide) tw_70 rfl rfl dX7_plansThere_33 ?_
      obtain ⟨x8, hr, hf⟩ := bj1_ok hf
      have hj_44_7 : X K 44 [(2, .ref (kad K 4)), (3, .int 4), (4, .int v2)] [.int x8, .int v1] G := by
        clear hr
        refine x_iadd hc dX7_plansThere_44 ?_
        refine x_istore_n (L' := [(1, .int (v1 + x8)), (2, .ref (kad K 4)), (3, .int 4), (4, .int v2)]) hc [0, 1, 2, 3] dX7_plansThere_45 rfl (by decide) rfl ?_
        refine x_iinc (v := v2 + 1) (L' := [(1, .int (v1 + x8)), (2, .ref (kad K 4)), (3, .int 4), (4, .int (v2 + 1))]) hc 3 [1, 2, 3, 0] dX7_plansThere_46 rfl rfl (by decide) rfl ?_
        refine x_goto (tgt := 13) hc dX7_plansThere_49 rfl ?_
        exact x_sub [0, 1, 2, 3] (ih _ _ _ hf hk) rfl
      replace hf := hr
      clear hr
      refine x_if_eq (tgt := 43) hc dX7_plansThere_36 rfl (fun c_36 => ?_) (fun c_36 => ?_)
      · replace hf := if_p hf c_36
        refine x_iconst (v := 0) hc rfl dX7_plansThere_43 ?_
        cases hf
        exact x_sub [1, 2, 3] hj_44_7 rfl
      · replace hf := if_n hf c_36
        refine x_iconst (v := 1) hc rfl dX7_plansThere_39 ?_
        refine x_goto (tgt := 44) hc dX7_plansThere_40 rfl ?_
        cases hf
        exact x_sub [1, 2, 3] hj_44_7 rfl
set_option maxHeartbeats 4000000 in
set_option maxRecDepth 100000 in
theorem c_X7_plansThere (l : Launch) (V : VT)  (G : G_) (r : Int32) (hf : f_X7_plansThere  G = some r) : MC l V yX7_plansThere cX7_plansThere 6 (some .int) 0 0 [.ref (V.2.2.1 0)] G (some (.int r)) G := by
  refine mc_of (by decide) (Nat.le_of_ble_eq_true rfl) (fun K hV ho hc hkl => ?_)
  subst hV
  replace hc : Ok K cX7_plansThere RX7 (Cond.code yX7_plansThere cX7_plansThere 6 (some .int) :: TB) (some .int) 0 0 6 := hc
  replace ho : Rets K (some (.int r)) G := ho
  show X K 0 [(0, .ref (kad K 0))] [] G
  unfold f_X7_plansThere at hf
  refine x_iconst (v := 0) hc rfl dX7_plansThere_0 ?_
  refine x_istore_n (L' := [(0, .ref (kad K 0)), (1, .int 0)]) hc [1, 0] dX7_plansThere_1 rfl (by decide) rfl ?_
  refine x_aload_n hc 0 dX7_plansThere_2 rfl rfl ?_
  refine x_getR (T := TX7) (p0 := 0) hc in_X7 rfl (by decide) (rfl : kd 0 = 7) 3 (by decide) tw_243 rfl rfl dX7_plansThere_3 ?_
  refine x_astore_n (L' := [(1, .int 0), (2, .ref (kad K 4))]) hc [2, 0] dX7_plansThere_6 rfl (by decide) rfl ?_
  refine x_aload_n hc 1 dX7_plansThere_7 rfl rfl ?_
  refine x_alenQ (p0 := 4) (v := 4) hc (sh_X7_plans (rfl : kd 0 = 7)).1 (by decide) (by decide) (sh_X7_plans (rfl : kd 0 = 7)).2 rfl dX7_plansThere_8 ?_
  refine x_istore_n (L' := [(1, .int 0), (2, .ref (kad K 4)), (3, .int 4)]) hc [1, 2, 0] dX7_plansThere_9 rfl (by decide) rfl ?_
  refine x_iconst (v := 0) hc rfl dX7_plansThere_10 ?_
  refine x_istore (L' := [(1, .int 0), (2, .ref (kad K 4)), (3, .int 4), (4, .int 0)]) hc [1, 2, 3, 0] dX7_plansThere_11 (by decide) rfl ?_
  obtain ⟨x9, hl_13, hf⟩ := bj1_ok hf
  have he_52_n3 : X K 52 [(1, .int x9)] [] G := by
    clear hl_13
    refine x_iload_n hc 0 dX7_plansThere_52 rfl rfl ?_
    cases hf
    exact x_iret hc rfl ho dX7_plansThere_53
  exact x_sub [0, 1, 2, 3] (c_X7_plansThere_l13_3 G hc  FU 0 0 x9 hl_13 he_52_n3) rfl
def f_X7_dishesKept_l13_3 (G : G_) : Nat → Int32 → Int32 → Option (Int32)
  | 0, _, _ => none
  | n3 + 1, v1, v2 =>
    if 3 ≤ v2 then (
      some (v1))
    else (
      chk (inb v2 3) <|
      nm (rb 12 + rs 12 * ix v2) fun p5 =>
      chk (kd p5 == 0) <|
      bj1 (
        if G.1 p5 7 = 0 then (
          some (0))
        else (
          some (1))) fun (x8 : Int32) =>
      f_X7_dishesKept_l13_3 G n3 (v1 + x8) (v2 + 1))
def f_X7_dishesKept  (G : G_) : Option Int32 :=
  bj1 (f_X7_dishesKept_l13_3 G FU 0 0) fun x9 =>
  some x9
set_option maxHeartbeats 4000000 in
set_option maxRecDepth 100000 in
theorem c_X7_dishesKept_l13_3 {K : CT} (G : G_) (hc : Ok K cX7_dishesKept RX7 (Cond.code yX7_dishesKept cX7_dishesKept 6 (some .int) :: TB) (some .int) 0 0 6)  : ∀ (n3 : Nat) (v1 : Int32) (v2 : Int32) (x9 : Int32), f_X7_dishesKept_l13_3 G n3 v1 v2 = some (x9) → X K 52 [(1, .int x9)] [] G → X K 13 [(1, .int v1), (2, .ref (kad K 16)), (3, .int 3), (4, .int v2)] [] G := by
  intro n3
  induction n3 with
  | zero =>
    intro v1 v2 x9 hf hk
    cases hf
  | succ n3 ih =>
    intro v1 v2 x9 hf hk
    unfold f_X7_dishesKept_l13_3 at hf
    refine x_iload hc 3 dX7_dishesKept_13 rfl ?_
    refine x_iload_n hc 2 dX7_dishesKept_15 rfl rfl ?_
    refine x_icmp_ge (tgt := 52) hc dX7_dishesKept_16 rfl (fun c_16 => ?_) (fun c_16 => ?_)
    · replace hf := if_p hf c_16
      cases hf
      exact x_sub [0] hk rfl
    · replace hf := if_n hf c_16
      refine x_aload_n hc 1 dX7_dishesKept_19 rfl rfl ?_
      refine x_iload hc 3 dX7_dishesKept_20 rfl ?_
      obtain ⟨h4, hf⟩ := chk_ok hf
      refine x_aaload (p0 := 16) (C := "SlabTurn$Dish") hc (sh_X7_kept (rfl : kd 0 = 7)).1 (by decide) (by decide) (fun _ => rfl) rfl (sh_X7_kept (rfl : kd 0 = 7)).2 h4 dX7_dishesKept_22 ?_
      refine x_nmp (fun p5 e_p5 => ?_)
      replace hf := nm_ok hf p5 e_p5
      obtain ⟨k6, hf⟩ := chk_ok hf
      refine x_astore (L' := [(1, .int v1), (2, .ref (kad K 16)), (3, .int 3), (4, .int v2), (5, .ref (kad K p5))]) hc [1, 2, 3, 4, 0] dX7_dishesKept_23 (by decide) rfl ?_
      refine x_iload_n hc 0 dX7_dishesKept_25 rfl rfl ?_
      refine x_aload hc 4 dX7_dishesKept_26 rfl ?_
      refine x_ifnullR hc dX7_dishesKept_28 ?_
      refine x_aload hc 4 dX7_dishesKept_31 rfl ?_
      refine x_getI (T := TX0) (p0 := p5) hc in_X0 rfl (by decide) (kdb k6) 7 (by decide) tw_101 rfl rfl dX7_dishesKept_33 ?_
      obtain ⟨x8, hr, hf⟩ := bj1_ok hf
      have hj_44_7 : X K 44 [(2, .ref (kad K 16)), (3, .int 3), (4, .int v2)] [.int x8, .int v1] G := by
        clear hr
        refine x_iadd hc dX7_dishesKept_44 ?_
        refine x_istore_n (L' := [(1, .int (v1 + x8)), (2, .ref (kad K 16)), (3, .int 3), (4, .int v2)]) hc [0, 1, 2, 3] dX7_dishesKept_45 rfl (by decide) rfl ?_
        refine x_iinc (v := v2 + 1) (L' := [(1, .int (v1 + x8)), (2, .ref (kad K 16)), (3, .int 3), (4, .int (v2 + 1))]) hc 3 [1, 2, 3, 0] dX7_dishesKept_46 rfl rfl (by decide) rfl ?_
        refine x_goto (tgt := 13) hc dX7_dishesKept_49 rfl ?_
        exact x_sub [0, 1, 2, 3] (ih _ _ _ hf hk) rfl
      replace hf := hr
      clear hr
      refine x_if_eq (tgt := 43) hc dX7_dishesKept_36 rfl (fun c_36 => ?_) (fun c_36 => ?_)
      · replace hf := if_p hf c_36
        refine x_iconst (v := 0) hc rfl dX7_dishesKept_43 ?_
        cases hf
        exact x_sub [1, 2, 3] hj_44_7 rfl
      · replace hf := if_n hf c_36
        refine x_iconst (v := 1) hc rfl dX7_dishesKept_39 ?_
        refine x_goto (tgt := 44) hc dX7_dishesKept_40 rfl ?_
        cases hf
        exact x_sub [1, 2, 3] hj_44_7 rfl
set_option maxHeartbeats 4000000 in
set_option maxRecDepth 100000 in
theorem c_X7_dishesKept (l : Launch) (V : VT)  (G : G_) (r : Int32) (hf : f_X7_dishesKept  G = some r) : MC l V yX7_dishesKept cX7_dishesKept 6 (some .int) 0 0 [.ref (V.2.2.1 0)] G (some (.int r)) G := by
  refine mc_of (by decide) (Nat.le_of_ble_eq_true rfl) (fun K hV ho hc hkl => ?_)
  subst hV
  replace hc : Ok K cX7_dishesKept RX7 (Cond.code yX7_dishesKept cX7_dishesKept 6 (some .int) :: TB) (some .int) 0 0 6 := hc
  replace ho : Rets K (some (.int r)) G := ho
  show X K 0 [(0, .ref (kad K 0))] [] G
  unfold f_X7_dishesKept at hf
  refine x_iconst (v := 0) hc rfl dX7_dishesKept_0 ?_
  refine x_istore_n (L' := [(0, .ref (kad K 0)), (1, .int 0)]) hc [1, 0] dX7_dishesKept_1 rfl (by decide) rfl ?_
  refine x_aload_n hc 0 dX7_dishesKept_2 rfl rfl ?_
  refine x_getR (T := TX7) (p0 := 0) hc in_X7 rfl (by decide) (rfl : kd 0 = 7) 5 (by decide) tw_245 rfl rfl dX7_dishesKept_3 ?_
  refine x_astore_n (L' := [(1, .int 0), (2, .ref (kad K 16))]) hc [2, 0] dX7_dishesKept_6 rfl (by decide) rfl ?_
  refine x_aload_n hc 1 dX7_dishesKept_7 rfl rfl ?_
  refine x_alenQ (p0 := 16) (v := 3) hc (sh_X7_kept (rfl : kd 0 = 7)).1 (by decide) (by decide) (sh_X7_kept (rfl : kd 0 = 7)).2 rfl dX7_dishesKept_8 ?_
  refine x_istore_n (L' := [(1, .int 0), (2, .ref (kad K 16)), (3, .int 3)]) hc [1, 2, 0] dX7_dishesKept_9 rfl (by decide) rfl ?_
  refine x_iconst (v := 0) hc rfl dX7_dishesKept_10 ?_
  refine x_istore (L' := [(1, .int 0), (2, .ref (kad K 16)), (3, .int 3), (4, .int 0)]) hc [1, 2, 3, 0] dX7_dishesKept_11 (by decide) rfl ?_
  obtain ⟨x9, hl_13, hf⟩ := bj1_ok hf
  have he_52_n3 : X K 52 [(1, .int x9)] [] G := by
    clear hl_13
    refine x_iload_n hc 0 dX7_dishesKept_52 rfl rfl ?_
    cases hf
    exact x_iret hc rfl ho dX7_dishesKept_53
  exact x_sub [0, 1, 2, 3] (c_X7_dishesKept_l13_3 G hc  FU 0 0 x9 hl_13 he_52_n3) rfl
def f_X7_tear (a1 : Int32) (G : G_) : Option (Int32 × G_) :=
  bj1 (f_X7_rowAt a1 G) fun o1 =>
  mo o1 (
    some ((-1), G)) (fun p3 =>
    chk (kd p3 == 4) <|
    bj1 (f_X4_there p3 G) fun x5 =>
    if x5 = 0 then (
      bj2 (f_X7_found 1 G) fun x9 G8 =>
      some (x9, G8))
    else (
      nm (sI G p3 1 (-1)) fun G7 =>
      some (1, G7)))
set_option maxHeartbeats 4000000 in
set_option maxRecDepth 100000 in
theorem c_X7_tear (l : Launch) (V : VT) (a1 : Int32) (G : G_) (r : Int32) (G' : G_) (hf : f_X7_tear a1 G = some (r, G')) : MC l V yX7_tear cX7_tear 3 (some .int) 1 21 [.ref (V.2.2.1 0), .int a1] G (some (.int r)) G' := by
  refine mc_of (by decide) (Nat.le_of_ble_eq_true rfl) (fun K hV ho hc hkl => ?_)
  subst hV
  replace hc : Ok K cX7_tear RX7 (Cond.code yX7_tear cX7_tear 3 (some .int) :: TB) (some .int) 1 21 3 := hc
  replace ho : Rets K (some (.int r)) G' := ho
  show X K 0 [(0, .ref (kad K 0)), (1, .int a1)] [] G
  unfold f_X7_tear at hf
  refine x_aload_n hc 0 dX7_tear_0 rfl rfl ?_
  refine x_iload_n hc 1 dX7_tear_1 rfl rfl ?_
  obtain ⟨o1, r2, hf⟩ := bj1_ok hf
  refine x_callVr (As := [.int a1]) (p0 := 0) (v := (rfo K o1)) (T := TX7) hc (c_X7_rowAt (kl K) (kV K) a1 G o1 r2) mw_X7_rowAt tw_501 (rfl : kd 0 = 7) (by decide) rfl rfl (Nat.le_of_ble_eq_true rfl) ⟨Nat.le_of_ble_eq_true rfl, Nat.le_of_ble_eq_true rfl⟩ dX7_tear_2 rfl ?_
  refine x_astore_nO (L' := [(0, .ref (kad K 0)), (2, rfo K o1)]) hc [1, 0] dX7_tear_5 rfl (by decide) rfl ?_
  refine x_aload_nO hc 1 dX7_tear_6 rfl rfl ?_
  cases o1 with
  | none =>
    replace hf := mo_n hf
    show X K 7 [(0, .ref (kad K 0)), (2, .null)] [.null] G
    refine x_ifnonnullN hc dX7_tear_7 ?_
    refine x_iconst (v := (-1)) hc rfl dX7_tear_10 ?_
    cases hf
    exact x_iret hc rfl ho dX7_tear_11
  | some p3 =>
    replace hf := mo_s hf
    obtain ⟨k4, hf⟩ := chk_ok hf
    show X K 7 [(0, .ref (kad K 0)), (2, .ref (kad K p3))] [.ref (kad K p3)] G
    refine x_ifnonnullR (tgt := 12) hc dX7_tear_7 rfl ?_
    refine x_aload_n hc 1 dX7_tear_12 rfl rfl ?_
    obtain ⟨x5, r6, hf⟩ := bj1_ok hf
    refine x_callVr (As := []) (p0 := p3) (v := (.int x5)) (T := TX4) hc (c_X4_there (kl K) (kV K) p3 G x5 r6) mw_X4_there tw_575 (kdb k4) (by decide) rfl rfl (Nat.le_of_ble_eq_true rfl) ⟨Nat.le_of_ble_eq_true rfl, Nat.le_of_ble_eq_true rfl⟩ dX7_tear_13 rfl ?_
    refine x_if_ne (tgt := 25) hc dX7_tear_16 rfl (fun c_16 => ?_) (fun c_16 => ?_)
    · replace hf := if_n hf c_16
      refine x_aload_n hc 1 dX7_tear_25 rfl rfl ?_
      refine x_iconst (v := (-1)) hc rfl dX7_tear_26 ?_
      refine x_putI (T := TX4) (p0 := p3) hc tyX4 tyX4_ok nmX4 in_X4 rfl (by decide) (kdb k4) 1 (by decide) tw_220 rfl rfl rfl (by decide +kernel) dX7_tear_27 ?_
      refine x_nmg (fun G7 e_G7 => ?_)
      replace hf := nm_ok hf G7 e_G7
      refine x_iconst (v := 1) hc rfl dX7_tear_30 ?_
      cases hf
      exact x_iret hc rfl ho dX7_tear_31
    · replace hf := if_p hf c_16
      refine x_aload_n hc 0 dX7_tear_19 rfl rfl ?_
      refine x_iconst (v := 1) hc rfl dX7_tear_20 ?_
      obtain ⟨x9, G8, r10, hf⟩ := bj2_ok hf
      refine x_callVr (As := [.int 1]) (p0 := 0) (v := (.int x9)) (T := TX7) hc (c_X7_found (kl K) (kV K) 1 G x9 G8 r10) mw_X7_found tw_314 (rfl : kd 0 = 7) (by decide) rfl rfl (Nat.le_of_ble_eq_true rfl) ⟨Nat.le_of_ble_eq_true rfl, Nat.le_of_ble_eq_true rfl⟩ dX7_tear_21 rfl ?_
      cases hf
      exact x_iret hc rfl ho dX7_tear_24
def f_X7_isWay (a0 : Int32) (a1 : Int32) : Option Int32 :=
  bj1 (f_X7_within a0 10 30) fun x1 =>
  if x1 = 0 then (
    some 0)
  else (
    bj1 (f_X7_within a1 1 60) fun x3 =>
    if x3 = 0 then (
      some 0)
    else (
      some 1))
set_option maxHeartbeats 4000000 in
set_option maxRecDepth 100000 in
theorem c_X7_isWay (l : Launch) (V : VT) (a0 : Int32) (a1 : Int32) (G : G_) (r : Int32) (hf : f_X7_isWay a0 a1 = some r) : MC l V yX7_isWay cX7_isWay 2 (some .boolean) 1 22 [.int a0, .int a1] G (some (.int r)) G := by
  refine mc_of (by decide) (Nat.le_of_ble_eq_true rfl) (fun K hV ho hc hkl => ?_)
  subst hV
  replace hc : Ok K cX7_isWay RX7 (Cond.code yX7_isWay cX7_isWay 2 (some .boolean) :: TB) (some .boolean) 1 22 2 := hc
  replace ho : Rets K (some (.int r)) G := ho
  show X K 0 [(0, .int a0), (1, .int a1)] [] G
  unfold f_X7_isWay at hf
  refine x_iload_n hc 0 dX7_isWay_0 rfl rfl ?_
  refine x_bipush (v := 10) hc rfl dX7_isWay_1 ?_
  refine x_bipush (v := 30) hc rfl dX7_isWay_3 ?_
  obtain ⟨x1, r2, hf⟩ := bj1_ok hf
  refine x_callSr (As := [.int a0, .int 10, .int 30]) (v := (.int x1)) hc (c_X7_within (kl K) (kV K) a0 10 30 G x1 r2) mw_X7_within tw_401 rfl (Nat.le_of_ble_eq_true rfl) ⟨Nat.le_of_ble_eq_true rfl, Nat.le_of_ble_eq_true rfl⟩ dX7_isWay_5 rfl ?_
  refine x_if_eq (tgt := 25) hc dX7_isWay_8 rfl (fun c_8 => ?_) (fun c_8 => ?_)
  · replace hf := if_p hf c_8
    refine x_iconst (v := 0) hc rfl dX7_isWay_25 ?_
    cases hf
    exact x_zret hc rfl rfl ho dX7_isWay_26
  · replace hf := if_n hf c_8
    refine x_iload_n hc 1 dX7_isWay_11 rfl rfl ?_
    refine x_iconst (v := 1) hc rfl dX7_isWay_12 ?_
    refine x_bipush (v := 60) hc rfl dX7_isWay_13 ?_
    obtain ⟨x3, r4, hf⟩ := bj1_ok hf
    refine x_callSr (As := [.int a1, .int 1, .int 60]) (v := (.int x3)) hc (c_X7_within (kl K) (kV K) a1 1 60 G x3 r4) mw_X7_within tw_401 rfl (Nat.le_of_ble_eq_true rfl) ⟨Nat.le_of_ble_eq_true rfl, Nat.le_of_ble_eq_true rfl⟩ dX7_isWay_15 rfl ?_
    refine x_if_eq (tgt := 25) hc dX7_isWay_18 rfl (fun c_18 => ?_) (fun c_18 => ?_)
    · replace hf := if_p hf c_18
      refine x_iconst (v := 0) hc rfl dX7_isWay_25 ?_
      cases hf
      exact x_zret hc rfl rfl ho dX7_isWay_26
    · replace hf := if_n hf c_18
      refine x_iconst (v := 1) hc rfl dX7_isWay_21 ?_
      refine x_goto (tgt := 26) hc dX7_isWay_22 rfl ?_
      cases hf
      exact x_zret hc rfl rfl ho dX7_isWay_26
def f_X7_isHeat (a0 : Int32) : Option Int32 :=
  bj1 (f_X7_within a0 2 30) fun x1 =>
  chk (isZ x1) <| some x1
set_option maxHeartbeats 4000000 in
set_option maxRecDepth 100000 in
theorem c_X7_isHeat (l : Launch) (V : VT) (a0 : Int32) (G : G_) (r : Int32) (hf : f_X7_isHeat a0 = some r) : MC l V yX7_isHeat cX7_isHeat 1 (some .boolean) 1 22 [.int a0] G (some (.int r)) G := by
  refine mc_of (by decide) (Nat.le_of_ble_eq_true rfl) (fun K hV ho hc hkl => ?_)
  subst hV
  replace hc : Ok K cX7_isHeat RX7 (Cond.code yX7_isHeat cX7_isHeat 1 (some .boolean) :: TB) (some .boolean) 1 22 1 := hc
  replace ho : Rets K (some (.int r)) G := ho
  show X K 0 [(0, .int a0)] [] G
  unfold f_X7_isHeat at hf
  refine x_iload_n hc 0 dX7_isHeat_0 rfl rfl ?_
  refine x_iconst (v := 2) hc rfl dX7_isHeat_1 ?_
  refine x_bipush (v := 30) hc rfl dX7_isHeat_2 ?_
  obtain ⟨x1, r2, hf⟩ := bj1_ok hf
  refine x_callSr (As := [.int a0, .int 2, .int 30]) (v := (.int x1)) hc (c_X7_within (kl K) (kV K) a0 2 30 G x1 r2) mw_X7_within tw_401 rfl (Nat.le_of_ble_eq_true rfl) ⟨Nat.le_of_ble_eq_true rfl, Nat.le_of_ble_eq_true rfl⟩ dX7_isHeat_4 rfl ?_
  obtain ⟨hz, hf⟩ := chk_ok hf
  cases hf
  exact x_zret hc rfl hz ho dX7_isHeat_7
def f_X7_isSpan (a0 : Int32) (a1 : Int32) : Option Int32 :=
  bj1 (f_X7_within a0 0 4000) fun x1 =>
  if x1 = 0 then (
    some 0)
  else (
    bj1 (f_X7_within a1 0 4000) fun x3 =>
    if x3 = 0 then (
      some 0)
    else (
      if a1 < a0 then (
        some 0)
      else (
        some 1)))
set_option maxHeartbeats 4000000 in
set_option maxRecDepth 100000 in
theorem c_X7_isSpan (l : Launch) (V : VT) (a0 : Int32) (a1 : Int32) (G : G_) (r : Int32) (hf : f_X7_isSpan a0 a1 = some r) : MC l V yX7_isSpan cX7_isSpan 2 (some .boolean) 1 22 [.int a0, .int a1] G (some (.int r)) G := by
  refine mc_of (by decide) (Nat.le_of_ble_eq_true rfl) (fun K hV ho hc hkl => ?_)
  subst hV
  replace hc : Ok K cX7_isSpan RX7 (Cond.code yX7_isSpan cX7_isSpan 2 (some .boolean) :: TB) (some .boolean) 1 22 2 := hc
  replace ho : Rets K (some (.int r)) G := ho
  show X K 0 [(0, .int a0), (1, .int a1)] [] G
  unfold f_X7_isSpan at hf
  refine x_iload_n hc 0 dX7_isSpan_0 rfl rfl ?_
  refine x_iconst (v := 0) hc rfl dX7_isSpan_1 ?_
  refine x_sipush (v := 4000) hc rfl dX7_isSpan_2 ?_
  obtain ⟨x1, r2, hf⟩ := bj1_ok hf
  refine x_callSr (As := [.int a0, .int 0, .int 4000]) (v := (.int x1)) hc (c_X7_within (kl K) (kV K) a0 0 4000 G x1 r2) mw_X7_within tw_401 rfl (Nat.le_of_ble_eq_true rfl) ⟨Nat.le_of_ble_eq_true rfl, Nat.le_of_ble_eq_true rfl⟩ dX7_isSpan_5 rfl ?_
  refine x_if_eq (tgt := 31) hc dX7_isSpan_8 rfl (fun c_8 => ?_) (fun c_8 => ?_)
  · replace hf := if_p hf c_8
    refine x_iconst (v := 0) hc rfl dX7_isSpan_31 ?_
    cases hf
    exact x_zret hc rfl rfl ho dX7_isSpan_32
  · replace hf := if_n hf c_8
    refine x_iload_n hc 1 dX7_isSpan_11 rfl rfl ?_
    refine x_iconst (v := 0) hc rfl dX7_isSpan_12 ?_
    refine x_sipush (v := 4000) hc rfl dX7_isSpan_13 ?_
    obtain ⟨x3, r4, hf⟩ := bj1_ok hf
    refine x_callSr (As := [.int a1, .int 0, .int 4000]) (v := (.int x3)) hc (c_X7_within (kl K) (kV K) a1 0 4000 G x3 r4) mw_X7_within tw_401 rfl (Nat.le_of_ble_eq_true rfl) ⟨Nat.le_of_ble_eq_true rfl, Nat.le_of_ble_eq_true rfl⟩ dX7_isSpan_16 rfl ?_
    refine x_if_eq (tgt := 31) hc dX7_isSpan_19 rfl (fun c_19 => ?_) (fun c_19 => ?_)
    · replace hf := if_p hf c_19
      refine x_iconst (v := 0) hc rfl dX7_isSpan_31 ?_
      cases hf
      exact x_zret hc rfl rfl ho dX7_isSpan_32
    · replace hf := if_n hf c_19
      refine x_iload_n hc 0 dX7_isSpan_22 rfl rfl ?_
      refine x_iload_n hc 1 dX7_isSpan_23 rfl rfl ?_
      refine x_icmp_gt (tgt := 31) hc dX7_isSpan_24 rfl (fun c_24 => ?_) (fun c_24 => ?_)
      · replace hf := if_p hf c_24
        refine x_iconst (v := 0) hc rfl dX7_isSpan_31 ?_
        cases hf
        exact x_zret hc rfl rfl ho dX7_isSpan_32
      · replace hf := if_n hf c_24
        refine x_iconst (v := 1) hc rfl dX7_isSpan_27 ?_
        refine x_goto (tgt := 32) hc dX7_isSpan_28 rfl ?_
        cases hf
        exact x_zret hc rfl rfl ho dX7_isSpan_32
def f_X7_isOf_l4_3 (a1 : Int32) (G : G_) : Nat → Int32 → Int32 → Option Int32
  | 0, _, _ => none
  | n3 + 1, v1, v2 =>
    if 7 ≤ v2 then (
      some 0)
    else (
      bj1 (f_X7_within v1 0 (7 - 1)) fun x4 =>
      if x4 = 0 then (
        some 0)
      else (
        if v1 = a1 then (
          some 1)
        else (
          chk (inb v1 7) <|
          f_X7_isOf_l4_3 a1 G n3 (sPA (ix v1)) (v2 + 1))))
def f_X7_isOf (a0 : Int32) (a1 : Int32) (G : G_) : Option Int32 :=
  f_X7_isOf_l4_3 a1 G FU a0 0
set_option maxHeartbeats 4000000 in
set_option maxRecDepth 100000 in
theorem c_X7_isOf_l4_3 {K : CT} (a1 : Int32) (G : G_) (r : Int32) (hc : Ok K cX7_isOf RX7 (Cond.code yX7_isOf cX7_isOf 4 (some .boolean) :: TB) (some .boolean) 1 22 4)  : ∀ (n3 : Nat) (v1 : Int32) (v2 : Int32), f_X7_isOf_l4_3 a1 G n3 v1 v2 = some r → Rets K (some (.int r)) G → X K 4 [(1, .int a1), (2, .int v1), (3, .int v2)] [] G := by
  intro n3
  induction n3 with
  | zero =>
    intro v1 v2 hf ho
    cases hf
  | succ n3 ih =>
    intro v1 v2 hf ho
    unfold f_X7_isOf_l4_3 at hf
    refine x_iload_n hc 2 dX7_isOf_4 rfl rfl ?_
    refine x_getsPA hc tw_636 dX7_isOf_5 ?_
    refine x_tlenPA hc dX7_isOf_8 ?_
    refine x_icmp_ge (tgt := 45) hc dX7_isOf_9 rfl (fun c_9 => ?_) (fun c_9 => ?_)
    · replace hf := if_p hf c_9
      refine x_iconst (v := 0) hc rfl dX7_isOf_45 ?_
      cases hf
      exact x_zret hc rfl rfl ho dX7_isOf_46
    · replace hf := if_n hf c_9
      refine x_iload_n hc 1 dX7_isOf_12 rfl rfl ?_
      refine x_iconst (v := 0) hc rfl dX7_isOf_13 ?_
      refine x_getsPA hc tw_636 dX7_isOf_14 ?_
      refine x_tlenPA hc dX7_isOf_17 ?_
      refine x_iconst (v := 1) hc rfl dX7_isOf_18 ?_
      refine x_isub hc dX7_isOf_19 ?_
      obtain ⟨x4, r5, hf⟩ := bj1_ok hf
      refine x_callSr (As := [.int v1, .int 0, .int (7 - 1)]) (v := (.int x4)) hc (c_X7_within (kl K) (kV K) v1 0 (7 - 1) G x4 r5) mw_X7_within tw_401 rfl (Nat.le_of_ble_eq_true rfl) ⟨Nat.le_of_ble_eq_true rfl, Nat.le_of_ble_eq_true rfl⟩ dX7_isOf_20 rfl ?_
      refine x_if_eq (tgt := 45) hc dX7_isOf_23 rfl (fun c_23 => ?_) (fun c_23 => ?_)
      · replace hf := if_p hf c_23
        refine x_iconst (v := 0) hc rfl dX7_isOf_45 ?_
        cases hf
        exact x_zret hc rfl rfl ho dX7_isOf_46
      · replace hf := if_n hf c_23
        refine x_iload_n hc 1 dX7_isOf_26 rfl rfl ?_
        refine x_iload_n hc 0 dX7_isOf_27 rfl rfl ?_
        refine x_icmp_ne (tgt := 33) hc dX7_isOf_28 rfl (fun c_28 => ?_) (fun c_28 => ?_)
        · replace hf := if_n hf c_28
          refine x_getsPA hc tw_636 dX7_isOf_33 ?_
          refine x_iload_n hc 1 dX7_isOf_36 rfl rfl ?_
          obtain ⟨h6, hf⟩ := chk_ok hf
          refine x_tldPA hc h6 dX7_isOf_37 ?_
          refine x_istore_n (L' := [(1, .int a1), (2, .int (sPA (ix v1))), (3, .int v2)]) hc [1, 0, 2] dX7_isOf_38 rfl (by decide) rfl ?_
          refine x_iinc (v := v2 + 1) (L' := [(1, .int a1), (2, .int (sPA (ix v1))), (3, .int (v2 + 1))]) hc 2 [1, 2, 0] dX7_isOf_39 rfl rfl (by decide) rfl ?_
          refine x_goto (tgt := 4) hc dX7_isOf_42 rfl ?_
          exact x_sub [0, 1, 2] (ih _ _ hf ho) rfl
        · replace hf := if_p hf c_28
          refine x_iconst (v := 1) hc rfl dX7_isOf_31 ?_
          cases hf
          exact x_zret hc rfl rfl ho dX7_isOf_32
set_option maxHeartbeats 4000000 in
set_option maxRecDepth 100000 in
theorem c_X7_isOf (l : Launch) (V : VT) (a0 : Int32) (a1 : Int32) (G : G_) (r : Int32) (hf : f_X7_isOf a0 a1 G = some r) : MC l V yX7_isOf cX7_isOf 4 (some .boolean) 1 22 [.int a0, .int a1] G (some (.int r)) G := by
  refine mc_of (by decide) (Nat.le_of_ble_eq_true rfl) (fun K hV ho hc hkl => ?_)
  subst hV
  replace hc : Ok K cX7_isOf RX7 (Cond.code yX7_isOf cX7_isOf 4 (some .boolean) :: TB) (some .boolean) 1 22 4 := hc
  replace ho : Rets K (some (.int r)) G := ho
  show X K 0 [(0, .int a0), (1, .int a1)] [] G
  unfold f_X7_isOf at hf
  refine x_iload_n hc 0 dX7_isOf_0 rfl rfl ?_
  refine x_istore_n (L' := [(1, .int a1), (2, .int a0)]) hc [2, 0] dX7_isOf_1 rfl (by decide) rfl ?_
  refine x_iconst (v := 0) hc rfl dX7_isOf_2 ?_
  refine x_istore_n (L' := [(1, .int a1), (2, .int a0), (3, .int 0)]) hc [1, 2, 0] dX7_isOf_3 rfl (by decide) rfl ?_
  exact x_sub [0, 1, 2] (c_X7_isOf_l4_3 a1 G r hc  FU a0 0 hf ho) rfl
def f_X7_hasBoth (a1 : Int32) (G : G_) : Option Int32 :=
  bj1 (f_X7_slabAt a1 G) fun o1 =>
  bj1 (f_X7_planAt a1 G) fun o3 =>
  mo o1 (
    some 0) (fun p5 =>
    chk (kd p5 == 5) <|
    mo o3 (
      some 0) (fun p7 =>
      chk (kd p7 == 2) <|
      if G.1 p5 0 = 0 then (
        some 0)
      else (
        if G.1 p7 3 = 0 then (
          some 0)
        else (
          some 1))))
set_option maxHeartbeats 4000000 in
set_option maxRecDepth 100000 in
theorem c_X7_hasBoth (l : Launch) (V : VT) (a1 : Int32) (G : G_) (r : Int32) (hf : f_X7_hasBoth a1 G = some r) : MC l V yX7_hasBoth cX7_hasBoth 4 (some .boolean) 1 21 [.ref (V.2.2.1 0), .int a1] G (some (.int r)) G := by
  refine mc_of (by decide) (Nat.le_of_ble_eq_true rfl) (fun K hV ho hc hkl => ?_)
  subst hV
  replace hc : Ok K cX7_hasBoth RX7 (Cond.code yX7_hasBoth cX7_hasBoth 4 (some .boolean) :: TB) (some .boolean) 1 21 4 := hc
  replace ho : Rets K (some (.int r)) G := ho
  show X K 0 [(0, .ref (kad K 0)), (1, .int a1)] [] G
  unfold f_X7_hasBoth at hf
  refine x_aload_n hc 0 dX7_hasBoth_0 rfl rfl ?_
  refine x_iload_n hc 1 dX7_hasBoth_1 rfl rfl ?_
  obtain ⟨o1, r2, hf⟩ := bj1_ok hf
  refine x_callVr (As := [.int a1]) (p0 := 0) (v := (rfo K o1)) (T := TX7) hc (c_X7_slabAt (kl K) (kV K) a1 G o1 r2) mw_X7_slabAt tw_382 (rfl : kd 0 = 7) (by decide) rfl rfl (Nat.le_of_ble_eq_true rfl) ⟨Nat.le_of_ble_eq_true rfl, Nat.le_of_ble_eq_true rfl⟩ dX7_hasBoth_2 rfl ?_
  refine x_astore_nO (L' := [(0, .ref (kad K 0)), (1, .int a1), (2, rfo K o1)]) hc [1, 2, 0] dX7_hasBoth_5 rfl (by decide) rfl ?_
  refine x_aload_n hc 0 dX7_hasBoth_6 rfl rfl ?_
  refine x_iload_n hc 1 dX7_hasBoth_7 rfl rfl ?_
  obtain ⟨o3, r4, hf⟩ := bj1_ok hf
  refine x_callVr (As := [.int a1]) (p0 := 0) (v := (rfo K o3)) (T := TX7) hc (c_X7_planAt (kl K) (kV K) a1 G o3 r4) mw_X7_planAt tw_302 (rfl : kd 0 = 7) (by decide) rfl rfl (Nat.le_of_ble_eq_true rfl) ⟨Nat.le_of_ble_eq_true rfl, Nat.le_of_ble_eq_true rfl⟩ dX7_hasBoth_8 rfl ?_
  refine x_astore_nO (L' := [(2, rfo K o1), (3, rfo K o3)]) hc [3, 0] dX7_hasBoth_11 rfl (by decide) (by cases o1 <;> rfl) ?_
  refine x_aload_nO hc 0 dX7_hasBoth_12 rfl rfl ?_
  cases o1 with
  | none =>
    replace hf := mo_n hf
    show X K 13 [(2, .null), (3, rfo K o3)] [.null] G
    refine x_ifnullN (tgt := 38) hc dX7_hasBoth_13 rfl ?_
    refine x_iconst (v := 0) hc rfl dX7_hasBoth_38 ?_
    cases hf
    exact x_zret hc rfl rfl ho dX7_hasBoth_39
  | some p5 =>
    replace hf := mo_s hf
    obtain ⟨k6, hf⟩ := chk_ok hf
    show X K 13 [(2, .ref (kad K p5)), (3, rfo K o3)] [.ref (kad K p5)] G
    refine x_ifnullR hc dX7_hasBoth_13 ?_
    refine x_aload_nO hc 1 dX7_hasBoth_16 rfl rfl ?_
    cases o3 with
    | none =>
      replace hf := mo_n hf
      show X K 17 [(2, .ref (kad K p5)), (3, .null)] [.null] G
      refine x_ifnullN (tgt := 38) hc dX7_hasBoth_17 rfl ?_
      refine x_iconst (v := 0) hc rfl dX7_hasBoth_38 ?_
      cases hf
      exact x_zret hc rfl rfl ho dX7_hasBoth_39
    | some p7 =>
      replace hf := mo_s hf
      obtain ⟨k8, hf⟩ := chk_ok hf
      show X K 17 [(2, .ref (kad K p5)), (3, .ref (kad K p7))] [.ref (kad K p7)] G
      refine x_ifnullR hc dX7_hasBoth_17 ?_
      refine x_aload_n hc 0 dX7_hasBoth_20 rfl rfl ?_
      refine x_getI (T := TX5) (p0 := p5) hc in_X5 rfl (by decide) (kdb k6) 0 (by decide) tw_169 rfl rfl dX7_hasBoth_21 ?_
      refine x_if_eq (tgt := 38) hc dX7_hasBoth_24 rfl (fun c_24 => ?_) (fun c_24 => ?_)
      · replace hf := if_p hf c_24
        refine x_iconst (v := 0) hc rfl dX7_hasBoth_38 ?_
        cases hf
        exact x_zret hc rfl rfl ho dX7_hasBoth_39
      · replace hf := if_n hf c_24
        refine x_aload_n hc 1 dX7_hasBoth_27 rfl rfl ?_
        refine x_getI (T := TX2) (p0 := p7) hc in_X2 rfl (by decide) (kdb k8) 3 (by decide) tw_70 rfl rfl dX7_hasBoth_28 ?_
        refine x_if_eq (tgt := 38) hc dX7_hasBoth_31 rfl (fun c_31 => ?_) (fun c_31 => ?_)
        · replace hf := if_p hf c_31
          refine x_iconst (v := 0) hc rfl dX7_hasBoth_38 ?_
          cases hf
          exact x_zret hc rfl rfl ho dX7_hasBoth_39
        · replace hf := if_n hf c_31
          refine x_iconst (v := 1) hc rfl dX7_hasBoth_34 ?_
          refine x_goto (tgt := 39) hc dX7_hasBoth_35 rfl ?_
          cases hf
          exact x_zret hc rfl rfl ho dX7_hasBoth_39
def f_X7_ticksOf_l4_3 (a1 : Int32) (G : G_) : Nat → Int32 → Int32 → Option (Int32)
  | 0, _, _ => none
  | n3 + 1, v1, v2 =>
    if 4 ≤ v2 then (
      some (v1))
    else (
      bj1 (f_X7_planAt v2 G) fun o4 =>
      bj1 (
        mo o4 (
          some (0)) (fun p7 =>
          chk (kd p7 == 2) <|
          bj1 (f_X7_isIn v2 a1) fun x9 =>
          if x9 = 0 then (
            some (0))
          else (
            some (G.1 p7 5)))) fun (x11 : Int32) =>
      f_X7_ticksOf_l4_3 a1 G n3 (v1 + x11) (v2 + 1))
def f_X7_ticksOf (a1 : Int32) (G : G_) : Option Int32 :=
  bj1 (f_X7_ticksOf_l4_3 a1 G FU 0 0) fun x12 =>
  some x12
set_option maxHeartbeats 4000000 in
set_option maxRecDepth 100000 in
theorem c_X7_ticksOf_l4_3 {K : CT} (a1 : Int32) (G : G_) (hc : Ok K cX7_ticksOf RX7 (Cond.code yX7_ticksOf cX7_ticksOf 5 (some .int) :: TB) (some .int) 1 21 5)  : ∀ (n3 : Nat) (v1 : Int32) (v2 : Int32) (x12 : Int32), f_X7_ticksOf_l4_3 a1 G n3 v1 v2 = some (x12) → X K 51 [(2, .int x12)] [] G → X K 4 [(0, .ref (kad K 0)), (1, .int a1), (2, .int v1), (3, .int v2)] [] G := by
  intro n3
  induction n3 with
  | zero =>
    intro v1 v2 x12 hf hk
    cases hf
  | succ n3 ih =>
    intro v1 v2 x12 hf hk
    unfold f_X7_ticksOf_l4_3 at hf
    refine x_iload_n hc 3 dX7_ticksOf_4 rfl rfl ?_
    refine x_aload_n hc 0 dX7_ticksOf_5 rfl rfl ?_
    refine x_getR (T := TX7) (p0 := 0) hc in_X7 rfl (by decide) (rfl : kd 0 = 7) 3 (by decide) tw_243 rfl rfl dX7_ticksOf_6 ?_
    refine x_alenQ (p0 := 4) (v := 4) hc (sh_X7_plans (rfl : kd 0 = 7)).1 (by decide) (by decide) (sh_X7_plans (rfl : kd 0 = 7)).2 rfl dX7_ticksOf_9 ?_
    refine x_icmp_ge (tgt := 51) hc dX7_ticksOf_10 rfl (fun c_10 => ?_) (fun c_10 => ?_)
    · replace hf := if_p hf c_10
      cases hf
      exact x_sub [2] hk rfl
    · replace hf := if_n hf c_10
      refine x_aload_n hc 0 dX7_ticksOf_13 rfl rfl ?_
      refine x_iload_n hc 3 dX7_ticksOf_14 rfl rfl ?_
      obtain ⟨o4, r5, hf⟩ := bj1_ok hf
      refine x_callVr (As := [.int v2]) (p0 := 0) (v := (rfo K o4)) (T := TX7) hc (c_X7_planAt (kl K) (kV K) v2 G o4 r5) mw_X7_planAt tw_302 (rfl : kd 0 = 7) (by decide) rfl rfl (Nat.le_of_ble_eq_true rfl) ⟨Nat.le_of_ble_eq_true rfl, Nat.le_of_ble_eq_true rfl⟩ dX7_ticksOf_15 rfl ?_
      refine x_astoreO (L' := [(0, .ref (kad K 0)), (1, .int a1), (2, .int v1), (3, .int v2), (4, rfo K o4)]) hc [1, 2, 3, 4, 0] dX7_ticksOf_18 (by decide) rfl ?_
      refine x_iload_n hc 2 dX7_ticksOf_20 rfl rfl ?_
      refine x_aloadO hc 4 dX7_ticksOf_21 rfl ?_
      obtain ⟨x11, hr, hf⟩ := bj1_ok hf
      have hj_43_6 : X K 43 [(0, .ref (kad K 0)), (1, .int a1), (3, .int v2)] [.int x11, .int v1] G := by
        clear hr
        refine x_iadd hc dX7_ticksOf_43 ?_
        refine x_istore_n (L' := [(0, .ref (kad K 0)), (1, .int a1), (2, .int (v1 + x11)), (3, .int v2)]) hc [1, 2, 0, 3] dX7_ticksOf_44 rfl (by decide) rfl ?_
        refine x_iinc (v := v2 + 1) (L' := [(0, .ref (kad K 0)), (1, .int a1), (2, .int (v1 + x11)), (3, .int (v2 + 1))]) hc 3 [1, 2, 3, 0] dX7_ticksOf_45 rfl rfl (by decide) rfl ?_
        refine x_goto (tgt := 4) hc dX7_ticksOf_48 rfl ?_
        exact x_sub [0, 1, 2, 3] (ih _ _ _ hf hk) rfl
      replace hf := hr
      clear hr
      cases o4 with
      | none =>
        replace hf := mo_n hf
        show X K 23 [(0, .ref (kad K 0)), (1, .int a1), (2, .int v1), (3, .int v2), (4, .null)] [.null, .int v1] G
        refine x_ifnullN (tgt := 42) hc dX7_ticksOf_23 rfl ?_
        refine x_iconst (v := 0) hc rfl dX7_ticksOf_42 ?_
        cases hf
        exact x_sub [0, 1, 3] hj_43_6 rfl
      | some p7 =>
        replace hf := mo_s hf
        obtain ⟨k8, hf⟩ := chk_ok hf
        show X K 23 [(0, .ref (kad K 0)), (1, .int a1), (2, .int v1), (3, .int v2), (4, .ref (kad K p7))] [.ref (kad K p7), .int v1] G
        refine x_ifnullR hc dX7_ticksOf_23 ?_
        refine x_iload_n hc 3 dX7_ticksOf_26 rfl rfl ?_
        refine x_iload_n hc 1 dX7_ticksOf_27 rfl rfl ?_
        obtain ⟨x9, r10, hf⟩ := bj1_ok hf
        refine x_callSr (As := [.int v2, .int a1]) (v := (.int x9)) hc (c_X7_isIn (kl K) (kV K) v2 a1 G x9 r10) mw_X7_isIn tw_851 rfl (Nat.le_of_ble_eq_true rfl) ⟨Nat.le_of_ble_eq_true rfl, Nat.le_of_ble_eq_true rfl⟩ dX7_ticksOf_28 rfl ?_
        refine x_if_eq (tgt := 42) hc dX7_ticksOf_31 rfl (fun c_31 => ?_) (fun c_31 => ?_)
        · replace hf := if_p hf c_31
          refine x_iconst (v := 0) hc rfl dX7_ticksOf_42 ?_
          cases hf
          exact x_sub [0, 1, 3] hj_43_6 rfl
        · replace hf := if_n hf c_31
          refine x_aload hc 4 dX7_ticksOf_34 rfl ?_
          refine x_getI (T := TX2) (p0 := p7) hc in_X2 rfl (by decide) (kdb k8) 5 (by decide) tw_77 rfl rfl dX7_ticksOf_36 ?_
          refine x_goto (tgt := 43) hc dX7_ticksOf_39 rfl ?_
          cases hf
          exact x_sub [0, 1, 3] hj_43_6 rfl
set_option maxHeartbeats 4000000 in
set_option maxRecDepth 100000 in
theorem c_X7_ticksOf (l : Launch) (V : VT) (a1 : Int32) (G : G_) (r : Int32) (hf : f_X7_ticksOf a1 G = some r) : MC l V yX7_ticksOf cX7_ticksOf 5 (some .int) 1 21 [.ref (V.2.2.1 0), .int a1] G (some (.int r)) G := by
  refine mc_of (by decide) (Nat.le_of_ble_eq_true rfl) (fun K hV ho hc hkl => ?_)
  subst hV
  replace hc : Ok K cX7_ticksOf RX7 (Cond.code yX7_ticksOf cX7_ticksOf 5 (some .int) :: TB) (some .int) 1 21 5 := hc
  replace ho : Rets K (some (.int r)) G := ho
  show X K 0 [(0, .ref (kad K 0)), (1, .int a1)] [] G
  unfold f_X7_ticksOf at hf
  refine x_iconst (v := 0) hc rfl dX7_ticksOf_0 ?_
  refine x_istore_n (L' := [(0, .ref (kad K 0)), (1, .int a1), (2, .int 0)]) hc [1, 2, 0] dX7_ticksOf_1 rfl (by decide) rfl ?_
  refine x_iconst (v := 0) hc rfl dX7_ticksOf_2 ?_
  refine x_istore_n (L' := [(0, .ref (kad K 0)), (1, .int a1), (2, .int 0), (3, .int 0)]) hc [1, 2, 3, 0] dX7_ticksOf_3 rfl (by decide) rfl ?_
  obtain ⟨x12, hl_4, hf⟩ := bj1_ok hf
  have he_51_n3 : X K 51 [(2, .int x12)] [] G := by
    clear hl_4
    refine x_iload_n hc 0 dX7_ticksOf_51 rfl rfl ?_
    cases hf
    exact x_iret hc rfl ho dX7_ticksOf_52
  exact x_sub [0, 1, 2, 3] (c_X7_ticksOf_l4_3 a1 G hc  FU 0 0 x12 hl_4 he_51_n3) rfl
def f_X7_rowsThere_l13_3 (G : G_) : Nat → Int32 → Int32 → Option (Int32)
  | 0, _, _ => none
  | n3 + 1, v1, v2 =>
    if 6 ≤ v2 then (
      some (v1))
    else (
      chk (inb v2 6) <|
      nm (rb 14 + rs 14 * ix v2) fun p5 =>
      chk (kd p5 == 4) <|
      bj1 (f_X4_there p5 G) fun x7 =>
      bj1 (
        if x7 = 0 then (
          some (0))
        else (
          some (1))) fun (x10 : Int32) =>
      f_X7_rowsThere_l13_3 G n3 (v1 + x10) (v2 + 1))
def f_X7_rowsThere  (G : G_) : Option Int32 :=
  bj1 (f_X7_rowsThere_l13_3 G FU 0 0) fun x11 =>
  some x11
set_option maxHeartbeats 4000000 in
set_option maxRecDepth 100000 in
theorem c_X7_rowsThere_l13_3 {K : CT} (G : G_) (hc : Ok K cX7_rowsThere RX7 (Cond.code yX7_rowsThere cX7_rowsThere 6 (some .int) :: TB) (some .int) 1 20 6)  : ∀ (n3 : Nat) (v1 : Int32) (v2 : Int32) (x11 : Int32), f_X7_rowsThere_l13_3 G n3 v1 v2 = some (x11) → X K 52 [(1, .int x11)] [] G → X K 13 [(1, .int v1), (2, .ref (kad K 1)), (3, .int 6), (4, .int v2)] [] G := by
  intro n3
  induction n3 with
  | zero =>
    intro v1 v2 x11 hf hk
    cases hf
  | succ n3 ih =>
    intro v1 v2 x11 hf hk
    unfold f_X7_rowsThere_l13_3 at hf
    refine x_iload hc 3 dX7_rowsThere_13 rfl ?_
    refine x_iload_n hc 2 dX7_rowsThere_15 rfl rfl ?_
    refine x_icmp_ge (tgt := 52) hc dX7_rowsThere_16 rfl (fun c_16 => ?_) (fun c_16 => ?_)
    · replace hf := if_p hf c_16
      cases hf
      exact x_sub [0] hk rfl
    · replace hf := if_n hf c_16
      refine x_aload_n hc 1 dX7_rowsThere_19 rfl rfl ?_
      refine x_iload hc 3 dX7_rowsThere_20 rfl ?_
      obtain ⟨h4, hf⟩ := chk_ok hf
      refine x_aaload (p0 := 1) (C := "SlabTurn$Row") hc (sh_X7_rows (rfl : kd 0 = 7)).1 (by decide) (by decide) (fun _ => rfl) rfl (sh_X7_rows (rfl : kd 0 = 7)).2 h4 dX7_rowsThere_22 ?_
      refine x_nmp (fun p5 e_p5 => ?_)
      replace hf := nm_ok hf p5 e_p5
      obtain ⟨k6, hf⟩ := chk_ok hf
      refine x_astore (L' := [(1, .int v1), (2, .ref (kad K 1)), (3, .int 6), (4, .int v2), (5, .ref (kad K p5))]) hc [1, 2, 3, 4, 0] dX7_rowsThere_23 (by decide) rfl ?_
      refine x_iload_n hc 0 dX7_rowsThere_25 rfl rfl ?_
      refine x_aload hc 4 dX7_rowsThere_26 rfl ?_
      refine x_ifnullR hc dX7_rowsThere_28 ?_
      refine x_aload hc 4 dX7_rowsThere_31 rfl ?_
      obtain ⟨x7, r8, hf⟩ := bj1_ok hf
      refine x_callVr (As := []) (p0 := p5) (v := (.int x7)) (T := TX4) hc (c_X4_there (kl K) (kV K) p5 G x7 r8) mw_X4_there tw_575 (kdb k6) (by decide) rfl rfl (Nat.le_of_ble_eq_true rfl) ⟨Nat.le_of_ble_eq_true rfl, Nat.le_of_ble_eq_true rfl⟩ dX7_rowsThere_33 rfl ?_
      obtain ⟨x10, hr, hf⟩ := bj1_ok hf
      have hj_44_9 : X K 44 [(2, .ref (kad K 1)), (3, .int 6), (4, .int v2)] [.int x10, .int v1] G := by
        clear hr
        refine x_iadd hc dX7_rowsThere_44 ?_
        refine x_istore_n (L' := [(1, .int (v1 + x10)), (2, .ref (kad K 1)), (3, .int 6), (4, .int v2)]) hc [0, 1, 2, 3] dX7_rowsThere_45 rfl (by decide) rfl ?_
        refine x_iinc (v := v2 + 1) (L' := [(1, .int (v1 + x10)), (2, .ref (kad K 1)), (3, .int 6), (4, .int (v2 + 1))]) hc 3 [1, 2, 3, 0] dX7_rowsThere_46 rfl rfl (by decide) rfl ?_
        refine x_goto (tgt := 13) hc dX7_rowsThere_49 rfl ?_
        exact x_sub [0, 1, 2, 3] (ih _ _ _ hf hk) rfl
      replace hf := hr
      clear hr
      refine x_if_eq (tgt := 43) hc dX7_rowsThere_36 rfl (fun c_36 => ?_) (fun c_36 => ?_)
      · replace hf := if_p hf c_36
        refine x_iconst (v := 0) hc rfl dX7_rowsThere_43 ?_
        cases hf
        exact x_sub [1, 2, 3] hj_44_9 rfl
      · replace hf := if_n hf c_36
        refine x_iconst (v := 1) hc rfl dX7_rowsThere_39 ?_
        refine x_goto (tgt := 44) hc dX7_rowsThere_40 rfl ?_
        cases hf
        exact x_sub [1, 2, 3] hj_44_9 rfl
set_option maxHeartbeats 4000000 in
set_option maxRecDepth 100000 in
theorem c_X7_rowsThere (l : Launch) (V : VT)  (G : G_) (r : Int32) (hf : f_X7_rowsThere  G = some r) : MC l V yX7_rowsThere cX7_rowsThere 6 (some .int) 1 20 [.ref (V.2.2.1 0)] G (some (.int r)) G := by
  refine mc_of (by decide) (Nat.le_of_ble_eq_true rfl) (fun K hV ho hc hkl => ?_)
  subst hV
  replace hc : Ok K cX7_rowsThere RX7 (Cond.code yX7_rowsThere cX7_rowsThere 6 (some .int) :: TB) (some .int) 1 20 6 := hc
  replace ho : Rets K (some (.int r)) G := ho
  show X K 0 [(0, .ref (kad K 0))] [] G
  unfold f_X7_rowsThere at hf
  refine x_iconst (v := 0) hc rfl dX7_rowsThere_0 ?_
  refine x_istore_n (L' := [(0, .ref (kad K 0)), (1, .int 0)]) hc [1, 0] dX7_rowsThere_1 rfl (by decide) rfl ?_
  refine x_aload_n hc 0 dX7_rowsThere_2 rfl rfl ?_
  refine x_getR (T := TX7) (p0 := 0) hc in_X7 rfl (by decide) (rfl : kd 0 = 7) 0 (by decide) tw_240 rfl rfl dX7_rowsThere_3 ?_
  refine x_astore_n (L' := [(1, .int 0), (2, .ref (kad K 1))]) hc [2, 0] dX7_rowsThere_6 rfl (by decide) rfl ?_
  refine x_aload_n hc 1 dX7_rowsThere_7 rfl rfl ?_
  refine x_alenQ (p0 := 1) (v := 6) hc (sh_X7_rows (rfl : kd 0 = 7)).1 (by decide) (by decide) (sh_X7_rows (rfl : kd 0 = 7)).2 rfl dX7_rowsThere_8 ?_
  refine x_istore_n (L' := [(1, .int 0), (2, .ref (kad K 1)), (3, .int 6)]) hc [1, 2, 0] dX7_rowsThere_9 rfl (by decide) rfl ?_
  refine x_iconst (v := 0) hc rfl dX7_rowsThere_10 ?_
  refine x_istore (L' := [(1, .int 0), (2, .ref (kad K 1)), (3, .int 6), (4, .int 0)]) hc [1, 2, 3, 0] dX7_rowsThere_11 (by decide) rfl ?_
  obtain ⟨x11, hl_13, hf⟩ := bj1_ok hf
  have he_52_n3 : X K 52 [(1, .int x11)] [] G := by
    clear hl_13
    refine x_iload_n hc 0 dX7_rowsThere_52 rfl rfl ?_
    cases hf
    exact x_iret hc rfl ho dX7_rowsThere_53
  exact x_sub [0, 1, 2, 3] (c_X7_rowsThere_l13_3 G hc  FU 0 0 x11 hl_13 he_52_n3) rfl
def f_X7_textsThere_l13_3 (G : G_) : Nat → Int32 → Int32 → Option (Int32)
  | 0, _, _ => none
  | n3 + 1, v1, v2 =>
    if 4 ≤ v2 then (
      some (v1))
    else (
      chk (inb v2 4) <|
      nm (rb 16 + rs 16 * ix v2) fun p5 =>
      chk (kd p5 == 6) <|
      bj1 (f_X6_there p5 G) fun x7 =>
      bj1 (
        if x7 = 0 then (
          some (0))
        else (
          some (1))) fun (x10 : Int32) =>
      f_X7_textsThere_l13_3 G n3 (v1 + x10) (v2 + 1))
def f_X7_textsThere  (G : G_) : Option Int32 :=
  bj1 (f_X7_textsThere_l13_3 G FU 0 0) fun x11 =>
  some x11
set_option maxHeartbeats 4000000 in
set_option maxRecDepth 100000 in
theorem c_X7_textsThere_l13_3 {K : CT} (G : G_) (hc : Ok K cX7_textsThere RX7 (Cond.code yX7_textsThere cX7_textsThere 6 (some .int) :: TB) (some .int) 1 20 6)  : ∀ (n3 : Nat) (v1 : Int32) (v2 : Int32) (x11 : Int32), f_X7_textsThere_l13_3 G n3 v1 v2 = some (x11) → X K 52 [(1, .int x11)] [] G → X K 13 [(1, .int v1), (2, .ref (kad K 2)), (3, .int 4), (4, .int v2)] [] G := by
  intro n3
  induction n3 with
  | zero =>
    intro v1 v2 x11 hf hk
    cases hf
  | succ n3 ih =>
    intro v1 v2 x11 hf hk
    unfold f_X7_textsThere_l13_3 at hf
    refine x_iload hc 3 dX7_textsThere_13 rfl ?_
    refine x_iload_n hc 2 dX7_textsThere_15 rfl rfl ?_
    refine x_icmp_ge (tgt := 52) hc dX7_textsThere_16 rfl (fun c_16 => ?_) (fun c_16 => ?_)
    · replace hf := if_p hf c_16
      cases hf
      exact x_sub [0] hk rfl
    · replace hf := if_n hf c_16
      refine x_aload_n hc 1 dX7_textsThere_19 rfl rfl ?_
      refine x_iload hc 3 dX7_textsThere_20 rfl ?_
      obtain ⟨h4, hf⟩ := chk_ok hf
      refine x_aaload (p0 := 2) (C := "SlabTurn$Text") hc (sh_X7_texts (rfl : kd 0 = 7)).1 (by decide) (by decide) (fun _ => rfl) rfl (sh_X7_texts (rfl : kd 0 = 7)).2 h4 dX7_textsThere_22 ?_
      refine x_nmp (fun p5 e_p5 => ?_)
      replace hf := nm_ok hf p5 e_p5
      obtain ⟨k6, hf⟩ := chk_ok hf
      refine x_astore (L' := [(1, .int v1), (2, .ref (kad K 2)), (3, .int 4), (4, .int v2), (5, .ref (kad K p5))]) hc [1, 2, 3, 4, 0] dX7_textsThere_23 (by decide) rfl ?_
      refine x_iload_n hc 0 dX7_textsThere_25 rfl rfl ?_
      refine x_aload hc 4 dX7_textsThere_26 rfl ?_
      refine x_ifnullR hc dX7_textsThere_28 ?_
      refine x_aload hc 4 dX7_textsThere_31 rfl ?_
      obtain ⟨x7, r8, hf⟩ := bj1_ok hf
      refine x_callVr (As := []) (p0 := p5) (v := (.int x7)) (T := TX6) hc (c_X6_there (kl K) (kV K) p5 G x7 r8) mw_X6_there tw_310 (kdb k6) (by decide) rfl rfl (Nat.le_of_ble_eq_true rfl) ⟨Nat.le_of_ble_eq_true rfl, Nat.le_of_ble_eq_true rfl⟩ dX7_textsThere_33 rfl ?_
      obtain ⟨x10, hr, hf⟩ := bj1_ok hf
      have hj_44_9 : X K 44 [(2, .ref (kad K 2)), (3, .int 4), (4, .int v2)] [.int x10, .int v1] G := by
        clear hr
        refine x_iadd hc dX7_textsThere_44 ?_
        refine x_istore_n (L' := [(1, .int (v1 + x10)), (2, .ref (kad K 2)), (3, .int 4), (4, .int v2)]) hc [0, 1, 2, 3] dX7_textsThere_45 rfl (by decide) rfl ?_
        refine x_iinc (v := v2 + 1) (L' := [(1, .int (v1 + x10)), (2, .ref (kad K 2)), (3, .int 4), (4, .int (v2 + 1))]) hc 3 [1, 2, 3, 0] dX7_textsThere_46 rfl rfl (by decide) rfl ?_
        refine x_goto (tgt := 13) hc dX7_textsThere_49 rfl ?_
        exact x_sub [0, 1, 2, 3] (ih _ _ _ hf hk) rfl
      replace hf := hr
      clear hr
      refine x_if_eq (tgt := 43) hc dX7_textsThere_36 rfl (fun c_36 => ?_) (fun c_36 => ?_)
      · replace hf := if_p hf c_36
        refine x_iconst (v := 0) hc rfl dX7_textsThere_43 ?_
        cases hf
        exact x_sub [1, 2, 3] hj_44_9 rfl
      · replace hf := if_n hf c_36
        refine x_iconst (v := 1) hc rfl dX7_textsThere_39 ?_
        refine x_goto (tgt := 44) hc dX7_textsThere_40 rfl ?_
        cases hf
        exact x_sub [1, 2, 3] hj_44_9 rfl
set_option maxHeartbeats 4000000 in
set_option maxRecDepth 100000 in
theorem c_X7_textsThere (l : Launch) (V : VT)  (G : G_) (r : Int32) (hf : f_X7_textsThere  G = some r) : MC l V yX7_textsThere cX7_textsThere 6 (some .int) 1 20 [.ref (V.2.2.1 0)] G (some (.int r)) G := by
  refine mc_of (by decide) (Nat.le_of_ble_eq_true rfl) (fun K hV ho hc hkl => ?_)
  subst hV
  replace hc : Ok K cX7_textsThere RX7 (Cond.code yX7_textsThere cX7_textsThere 6 (some .int) :: TB) (some .int) 1 20 6 := hc
  replace ho : Rets K (some (.int r)) G := ho
  show X K 0 [(0, .ref (kad K 0))] [] G
  unfold f_X7_textsThere at hf
  refine x_iconst (v := 0) hc rfl dX7_textsThere_0 ?_
  refine x_istore_n (L' := [(0, .ref (kad K 0)), (1, .int 0)]) hc [1, 0] dX7_textsThere_1 rfl (by decide) rfl ?_
  refine x_aload_n hc 0 dX7_textsThere_2 rfl rfl ?_
  refine x_getR (T := TX7) (p0 := 0) hc in_X7 rfl (by decide) (rfl : kd 0 = 7) 1 (by decide) tw_241 rfl rfl dX7_textsThere_3 ?_
  refine x_astore_n (L' := [(1, .int 0), (2, .ref (kad K 2))]) hc [2, 0] dX7_textsThere_6 rfl (by decide) rfl ?_
  refine x_aload_n hc 1 dX7_textsThere_7 rfl rfl ?_
  refine x_alenQ (p0 := 2) (v := 4) hc (sh_X7_texts (rfl : kd 0 = 7)).1 (by decide) (by decide) (sh_X7_texts (rfl : kd 0 = 7)).2 rfl dX7_textsThere_8 ?_
  refine x_istore_n (L' := [(1, .int 0), (2, .ref (kad K 2)), (3, .int 4)]) hc [1, 2, 0] dX7_textsThere_9 rfl (by decide) rfl ?_
  refine x_iconst (v := 0) hc rfl dX7_textsThere_10 ?_
  refine x_istore (L' := [(1, .int 0), (2, .ref (kad K 2)), (3, .int 4), (4, .int 0)]) hc [1, 2, 3, 0] dX7_textsThere_11 (by decide) rfl ?_
  obtain ⟨x11, hl_13, hf⟩ := bj1_ok hf
  have he_52_n3 : X K 52 [(1, .int x11)] [] G := by
    clear hl_13
    refine x_iload_n hc 0 dX7_textsThere_52 rfl rfl ?_
    cases hf
    exact x_iret hc rfl ho dX7_textsThere_53
  exact x_sub [0, 1, 2, 3] (c_X7_textsThere_l13_3 G hc  FU 0 0 x11 hl_13 he_52_n3) rfl
def f_X7_at (a1 : Int32) (a2 : Int32) (G : G_) : Option (Int32 × G_) :=
  bj1 (f_X7_rowAt a1 G) fun o1 =>
  mo o1 (
    some ((-1), G)) (fun p3 =>
    chk (kd p3 == 4) <|
    bj1 (f_X4_there p3 G) fun x5 =>
    if x5 = 0 then (
      bj2 (f_X7_found 1 G) fun x18 G17 =>
      some (x18, G17))
    else (
      bj1 (f_X4_has p3 a2 G) fun x7 =>
      if x7 = 0 then (
        bj2 (f_X7_found 2 G) fun x15 G14 =>
        some (x15, G14))
      else (
        bj1 (f_X4_value p3 a2 G) fun x9 =>
        bj2 (f_X7_told 1 x9 G) fun x12 G11 =>
        some (x12, G11))))
set_option maxHeartbeats 4000000 in
set_option maxRecDepth 100000 in
theorem c_X7_at (l : Launch) (V : VT) (a1 : Int32) (a2 : Int32) (G : G_) (r : Int32) (G' : G_) (hf : f_X7_at a1 a2 G = some (r, G')) : MC l V yX7_at cX7_at 4 (some .int) 2 42 [.ref (V.2.2.1 0), .int a1, .int a2] G (some (.int r)) G' := by
  refine mc_of (by decide) (Nat.le_of_ble_eq_true rfl) (fun K hV ho hc hkl => ?_)
  subst hV
  replace hc : Ok K cX7_at RX7 (Cond.code yX7_at cX7_at 4 (some .int) :: TB) (some .int) 2 42 4 := hc
  replace ho : Rets K (some (.int r)) G' := ho
  show X K 0 [(0, .ref (kad K 0)), (1, .int a1), (2, .int a2)] [] G
  unfold f_X7_at at hf
  refine x_aload_n hc 0 dX7_at_0 rfl rfl ?_
  refine x_iload_n hc 1 dX7_at_1 rfl rfl ?_
  obtain ⟨o1, r2, hf⟩ := bj1_ok hf
  refine x_callVr (As := [.int a1]) (p0 := 0) (v := (rfo K o1)) (T := TX7) hc (c_X7_rowAt (kl K) (kV K) a1 G o1 r2) mw_X7_rowAt tw_501 (rfl : kd 0 = 7) (by decide) rfl rfl (Nat.le_of_ble_eq_true rfl) ⟨Nat.le_of_ble_eq_true rfl, Nat.le_of_ble_eq_true rfl⟩ dX7_at_2 rfl ?_
  refine x_astore_nO (L' := [(0, .ref (kad K 0)), (2, .int a2), (3, rfo K o1)]) hc [1, 3, 0] dX7_at_5 rfl (by decide) rfl ?_
  refine x_aload_nO hc 2 dX7_at_6 rfl rfl ?_
  cases o1 with
  | none =>
    replace hf := mo_n hf
    show X K 7 [(0, .ref (kad K 0)), (2, .int a2), (3, .null)] [.null] G
    refine x_ifnonnullN hc dX7_at_7 ?_
    refine x_iconst (v := (-1)) hc rfl dX7_at_10 ?_
    cases hf
    exact x_iret hc rfl ho dX7_at_11
  | some p3 =>
    replace hf := mo_s hf
    obtain ⟨k4, hf⟩ := chk_ok hf
    show X K 7 [(0, .ref (kad K 0)), (2, .int a2), (3, .ref (kad K p3))] [.ref (kad K p3)] G
    refine x_ifnonnullR (tgt := 12) hc dX7_at_7 rfl ?_
    refine x_aload_n hc 2 dX7_at_12 rfl rfl ?_
    obtain ⟨x5, r6, hf⟩ := bj1_ok hf
    refine x_callVr (As := []) (p0 := p3) (v := (.int x5)) (T := TX4) hc (c_X4_there (kl K) (kV K) p3 G x5 r6) mw_X4_there tw_575 (kdb k4) (by decide) rfl rfl (Nat.le_of_ble_eq_true rfl) ⟨Nat.le_of_ble_eq_true rfl, Nat.le_of_ble_eq_true rfl⟩ dX7_at_13 rfl ?_
    refine x_if_ne (tgt := 25) hc dX7_at_16 rfl (fun c_16 => ?_) (fun c_16 => ?_)
    · replace hf := if_n hf c_16
      refine x_aload_n hc 2 dX7_at_25 rfl rfl ?_
      refine x_iload_n hc 1 dX7_at_26 rfl rfl ?_
      obtain ⟨x7, r8, hf⟩ := bj1_ok hf
      refine x_callVr (As := [.int a2]) (p0 := p3) (v := (.int x7)) (T := TX4) hc (c_X4_has (kl K) (kV K) p3 a2 G x7 r8) mw_X4_has tw_902 (kdb k4) (by decide) rfl rfl (Nat.le_of_ble_eq_true rfl) ⟨Nat.le_of_ble_eq_true rfl, Nat.le_of_ble_eq_true rfl⟩ dX7_at_27 rfl ?_
      refine x_if_ne (tgt := 39) hc dX7_at_30 rfl (fun c_30 => ?_) (fun c_30 => ?_)
      · replace hf := if_n hf c_30
        refine x_aload_n hc 0 dX7_at_39 rfl rfl ?_
        refine x_iconst (v := 1) hc rfl dX7_at_40 ?_
        refine x_aload_n hc 2 dX7_at_41 rfl rfl ?_
        refine x_iload_n hc 1 dX7_at_42 rfl rfl ?_
        obtain ⟨x9, r10, hf⟩ := bj1_ok hf
        refine x_callVr (As := [.int a2]) (p0 := p3) (v := (.int x9)) (T := TX4) hc (c_X4_value (kl K) (kV K) p3 a2 G x9 r10) mw_X4_value tw_579 (kdb k4) (by decide) rfl rfl (Nat.le_of_ble_eq_true rfl) ⟨Nat.le_of_ble_eq_true rfl, Nat.le_of_ble_eq_true rfl⟩ dX7_at_43 rfl ?_
        obtain ⟨x12, G11, r13, hf⟩ := bj2_ok hf
        refine x_callVr (As := [.int 1, .int x9]) (p0 := 0) (v := (.int x12)) (T := TX7) hc (c_X7_told (kl K) (kV K) 1 x9 G x12 G11 r13) mw_X7_told tw_457 (rfl : kd 0 = 7) (by decide) rfl rfl (Nat.le_of_ble_eq_true rfl) ⟨Nat.le_of_ble_eq_true rfl, Nat.le_of_ble_eq_true rfl⟩ dX7_at_46 rfl ?_
        cases hf
        exact x_iret hc rfl ho dX7_at_49
      · replace hf := if_p hf c_30
        refine x_aload_n hc 0 dX7_at_33 rfl rfl ?_
        refine x_iconst (v := 2) hc rfl dX7_at_34 ?_
        obtain ⟨x15, G14, r16, hf⟩ := bj2_ok hf
        refine x_callVr (As := [.int 2]) (p0 := 0) (v := (.int x15)) (T := TX7) hc (c_X7_found (kl K) (kV K) 2 G x15 G14 r16) mw_X7_found tw_314 (rfl : kd 0 = 7) (by decide) rfl rfl (Nat.le_of_ble_eq_true rfl) ⟨Nat.le_of_ble_eq_true rfl, Nat.le_of_ble_eq_true rfl⟩ dX7_at_35 rfl ?_
        cases hf
        exact x_iret hc rfl ho dX7_at_38
    · replace hf := if_p hf c_16
      refine x_aload_n hc 0 dX7_at_19 rfl rfl ?_
      refine x_iconst (v := 1) hc rfl dX7_at_20 ?_
      obtain ⟨x18, G17, r19, hf⟩ := bj2_ok hf
      refine x_callVr (As := [.int 1]) (p0 := 0) (v := (.int x18)) (T := TX7) hc (c_X7_found (kl K) (kV K) 1 G x18 G17 r19) mw_X7_found tw_314 (rfl : kd 0 = 7) (by decide) rfl rfl (Nat.le_of_ble_eq_true rfl) ⟨Nat.le_of_ble_eq_true rfl, Nat.le_of_ble_eq_true rfl⟩ dX7_at_21 rfl ?_
      cases hf
      exact x_iret hc rfl ho dX7_at_24
def f_X7_text (a1 : Int32) (a2 : Int32) (G : G_) : Option (Int32 × G_) :=
  bj1 (f_X7_textAt a1 G) fun o1 =>
  mo o1 (
    some ((-1), G)) (fun p3 =>
    chk (kd p3 == 6) <|
    if a2 ≤ 80 then (
      if 0 ≤ a2 then (
        bj1 (f_X6_begin p3 a2 G) fun G5 =>
        some (a2, G5))
      else (
        bj2 (f_X7_found 5 G) fun x8 G7 =>
        some (x8, G7)))
    else (
      some ((-1), G)))
set_option maxHeartbeats 4000000 in
set_option maxRecDepth 100000 in
theorem c_X7_text (l : Launch) (V : VT) (a1 : Int32) (a2 : Int32) (G : G_) (r : Int32) (G' : G_) (hf : f_X7_text a1 a2 G = some (r, G')) : MC l V yX7_text cX7_text 4 (some .int) 2 43 [.ref (V.2.2.1 0), .int a1, .int a2] G (some (.int r)) G' := by
  refine mc_of (by decide) (Nat.le_of_ble_eq_true rfl) (fun K hV ho hc hkl => ?_)
  subst hV
  replace hc : Ok K cX7_text RX7 (Cond.code yX7_text cX7_text 4 (some .int) :: TB) (some .int) 2 43 4 := hc
  replace ho : Rets K (some (.int r)) G' := ho
  show X K 0 [(0, .ref (kad K 0)), (1, .int a1), (2, .int a2)] [] G
  unfold f_X7_text at hf
  refine x_aload_n hc 0 dX7_text_0 rfl rfl ?_
  refine x_iload_n hc 1 dX7_text_1 rfl rfl ?_
  obtain ⟨o1, r2, hf⟩ := bj1_ok hf
  refine x_callVr (As := [.int a1]) (p0 := 0) (v := (rfo K o1)) (T := TX7) hc (c_X7_textAt (kl K) (kV K) a1 G o1 r2) mw_X7_textAt tw_306 (rfl : kd 0 = 7) (by decide) rfl rfl (Nat.le_of_ble_eq_true rfl) ⟨Nat.le_of_ble_eq_true rfl, Nat.le_of_ble_eq_true rfl⟩ dX7_text_2 rfl ?_
  refine x_astore_nO (L' := [(0, .ref (kad K 0)), (2, .int a2), (3, rfo K o1)]) hc [1, 3, 0] dX7_text_5 rfl (by decide) rfl ?_
  refine x_aload_nO hc 2 dX7_text_6 rfl rfl ?_
  cases o1 with
  | none =>
    replace hf := mo_n hf
    show X K 7 [(0, .ref (kad K 0)), (2, .int a2), (3, .null)] [.null] G
    refine x_ifnullN (tgt := 16) hc dX7_text_7 rfl ?_
    refine x_iconst (v := (-1)) hc rfl dX7_text_16 ?_
    cases hf
    exact x_iret hc rfl ho dX7_text_17
  | some p3 =>
    replace hf := mo_s hf
    obtain ⟨k4, hf⟩ := chk_ok hf
    show X K 7 [(0, .ref (kad K 0)), (2, .int a2), (3, .ref (kad K p3))] [.ref (kad K p3)] G
    refine x_ifnullR hc dX7_text_7 ?_
    refine x_iload_n hc 1 dX7_text_10 rfl rfl ?_
    refine x_bipush (v := 80) hc rfl dX7_text_11 ?_
    refine x_icmp_le (tgt := 18) hc dX7_text_13 rfl (fun c_13 => ?_) (fun c_13 => ?_)
    · replace hf := if_p hf c_13
      refine x_iload_n hc 1 dX7_text_18 rfl rfl ?_
      refine x_if_ge (tgt := 28) hc dX7_text_19 rfl (fun c_19 => ?_) (fun c_19 => ?_)
      · replace hf := if_p hf c_19
        refine x_aload_n hc 2 dX7_text_28 rfl rfl ?_
        refine x_iload_n hc 1 dX7_text_29 rfl rfl ?_
        obtain ⟨G5, r6, hf⟩ := bj1_ok hf
        refine x_callVv (As := [.int a2]) (p0 := p3) (T := TX6) hc (c_X6_begin (kl K) (kV K) p3 a2 G G5 r6) mw_X6_begin tw_701 (kdb k4) (by decide) rfl rfl (Nat.le_of_ble_eq_true rfl) ⟨Nat.le_of_ble_eq_true rfl, Nat.le_of_ble_eq_true rfl⟩ dX7_text_30 rfl ?_
        refine x_iload_n hc 1 dX7_text_33 rfl rfl ?_
        cases hf
        exact x_iret hc rfl ho dX7_text_34
      · replace hf := if_n hf c_19
        refine x_aload_n hc 0 dX7_text_22 rfl rfl ?_
        refine x_iconst (v := 5) hc rfl dX7_text_23 ?_
        obtain ⟨x8, G7, r9, hf⟩ := bj2_ok hf
        refine x_callVr (As := [.int 5]) (p0 := 0) (v := (.int x8)) (T := TX7) hc (c_X7_found (kl K) (kV K) 5 G x8 G7 r9) mw_X7_found tw_314 (rfl : kd 0 = 7) (by decide) rfl rfl (Nat.le_of_ble_eq_true rfl) ⟨Nat.le_of_ble_eq_true rfl, Nat.le_of_ble_eq_true rfl⟩ dX7_text_24 rfl ?_
        cases hf
        exact x_iret hc rfl ho dX7_text_27
    · replace hf := if_n hf c_13
      refine x_iconst (v := (-1)) hc rfl dX7_text_16 ?_
      cases hf
      exact x_iret hc rfl ho dX7_text_17
def f_X7_put (a1 : Int32) (a2 : Int32) (a3 : Int32) (G : G_) : Option (Int32 × G_) :=
  bj1 (f_X7_textAt a1 G) fun o1 =>
  mo o1 (
    some ((-1), G)) (fun p3 =>
    chk (kd p3 == 6) <|
    bj1 (f_X6_there p3 G) fun x5 =>
    if x5 = 0 then (
      bj2 (f_X7_found 1 G) fun x17 G16 =>
      some (x17, G16))
    else (
      bj1 (f_X6_has p3 a2 G) fun x7 =>
      if x7 = 0 then (
        bj2 (f_X7_found 2 G) fun x14 G13 =>
        some (x14, G13))
      else (
        bj1 (f_X6_value p3 a2 G) fun x9 =>
        bj1 (f_X6_set p3 a2 a3.toInt8.toInt32 G) fun G11 =>
        some (x9 + 1000, G11))))
set_option maxHeartbeats 4000000 in
set_option maxRecDepth 100000 in
theorem c_X7_put (l : Launch) (V : VT) (a1 : Int32) (a2 : Int32) (a3 : Int32) (G : G_) (r : Int32) (G' : G_) (hf : f_X7_put a1 a2 a3 G = some (r, G')) : MC l V yX7_put cX7_put 6 (some .int) 2 43 [.ref (V.2.2.1 0), .int a1, .int a2, .int a3] G (some (.int r)) G' := by
  refine mc_of (by decide) (Nat.le_of_ble_eq_true rfl) (fun K hV ho hc hkl => ?_)
  subst hV
  replace hc : Ok K cX7_put RX7 (Cond.code yX7_put cX7_put 6 (some .int) :: TB) (some .int) 2 43 6 := hc
  replace ho : Rets K (some (.int r)) G' := ho
  show X K 0 [(0, .ref (kad K 0)), (1, .int a1), (2, .int a2), (3, .int a3)] [] G
  unfold f_X7_put at hf
  refine x_aload_n hc 0 dX7_put_0 rfl rfl ?_
  refine x_iload_n hc 1 dX7_put_1 rfl rfl ?_
  obtain ⟨o1, r2, hf⟩ := bj1_ok hf
  refine x_callVr (As := [.int a1]) (p0 := 0) (v := (rfo K o1)) (T := TX7) hc (c_X7_textAt (kl K) (kV K) a1 G o1 r2) mw_X7_textAt tw_306 (rfl : kd 0 = 7) (by decide) rfl rfl (Nat.le_of_ble_eq_true rfl) ⟨Nat.le_of_ble_eq_true rfl, Nat.le_of_ble_eq_true rfl⟩ dX7_put_2 rfl ?_
  refine x_astoreO (L' := [(0, .ref (kad K 0)), (2, .int a2), (3, .int a3), (4, rfo K o1)]) hc [1, 3, 4, 0] dX7_put_5 (by decide) rfl ?_
  refine x_aloadO hc 3 dX7_put_7 rfl ?_
  cases o1 with
  | none =>
    replace hf := mo_n hf
    show X K 9 [(0, .ref (kad K 0)), (2, .int a2), (3, .int a3), (4, .null)] [.null] G
    refine x_ifnonnullN hc dX7_put_9 ?_
    refine x_iconst (v := (-1)) hc rfl dX7_put_12 ?_
    cases hf
    exact x_iret hc rfl ho dX7_put_13
  | some p3 =>
    replace hf := mo_s hf
    obtain ⟨k4, hf⟩ := chk_ok hf
    show X K 9 [(0, .ref (kad K 0)), (2, .int a2), (3, .int a3), (4, .ref (kad K p3))] [.ref (kad K p3)] G
    refine x_ifnonnullR (tgt := 14) hc dX7_put_9 rfl ?_
    refine x_aload hc 3 dX7_put_14 rfl ?_
    obtain ⟨x5, r6, hf⟩ := bj1_ok hf
    refine x_callVr (As := []) (p0 := p3) (v := (.int x5)) (T := TX6) hc (c_X6_there (kl K) (kV K) p3 G x5 r6) mw_X6_there tw_310 (kdb k4) (by decide) rfl rfl (Nat.le_of_ble_eq_true rfl) ⟨Nat.le_of_ble_eq_true rfl, Nat.le_of_ble_eq_true rfl⟩ dX7_put_16 rfl ?_
    refine x_if_ne (tgt := 28) hc dX7_put_19 rfl (fun c_19 => ?_) (fun c_19 => ?_)
    · replace hf := if_n hf c_19
      refine x_aload hc 3 dX7_put_28 rfl ?_
      refine x_iload_n hc 1 dX7_put_30 rfl rfl ?_
      obtain ⟨x7, r8, hf⟩ := bj1_ok hf
      refine x_callVr (As := [.int a2]) (p0 := p3) (v := (.int x7)) (T := TX6) hc (c_X6_has (kl K) (kV K) p3 a2 G x7 r8) mw_X6_has tw_714 (kdb k4) (by decide) rfl rfl (Nat.le_of_ble_eq_true rfl) ⟨Nat.le_of_ble_eq_true rfl, Nat.le_of_ble_eq_true rfl⟩ dX7_put_31 rfl ?_
      refine x_if_ne (tgt := 43) hc dX7_put_34 rfl (fun c_34 => ?_) (fun c_34 => ?_)
      · replace hf := if_n hf c_34
        refine x_aload hc 3 dX7_put_43 rfl ?_
        refine x_iload_n hc 1 dX7_put_45 rfl rfl ?_
        obtain ⟨x9, r10, hf⟩ := bj1_ok hf
        refine x_callVr (As := [.int a2]) (p0 := p3) (v := (.int x9)) (T := TX6) hc (c_X6_value (kl K) (kV K) p3 a2 G x9 r10) mw_X6_value tw_715 (kdb k4) (by decide) rfl rfl (Nat.le_of_ble_eq_true rfl) ⟨Nat.le_of_ble_eq_true rfl, Nat.le_of_ble_eq_true rfl⟩ dX7_put_46 rfl ?_
        refine x_istore (L' := [(2, .int a2), (3, .int a3), (4, .ref (kad K p3)), (5, .int x9)]) hc [2, 3, 4, 0] dX7_put_49 (by decide) rfl ?_
        refine x_aload hc 2 dX7_put_51 rfl ?_
        refine x_iload_n hc 0 dX7_put_53 rfl rfl ?_
        refine x_iload_n hc 1 dX7_put_54 rfl rfl ?_
        refine x_i2b hc dX7_put_55 ?_
        obtain ⟨G11, r12, hf⟩ := bj1_ok hf
        refine x_callVv (As := [.int a2, .int a3.toInt8.toInt32]) (p0 := p3) (T := TX6) hc (c_X6_set (kl K) (kV K) p3 a2 a3.toInt8.toInt32 G G11 r12) mw_X6_set tw_716 (kdb k4) (by decide) rfl rfl (Nat.le_of_ble_eq_true rfl) ⟨Nat.le_of_ble_eq_true rfl, Nat.le_of_ble_eq_true rfl⟩ dX7_put_56 rfl ?_
        refine x_iload hc 3 dX7_put_59 rfl ?_
        refine x_sipush (v := 1000) hc rfl dX7_put_61 ?_
        refine x_iadd hc dX7_put_64 ?_
        cases hf
        exact x_iret hc rfl ho dX7_put_65
      · replace hf := if_p hf c_34
        refine x_aload_n hc 0 dX7_put_37 rfl rfl ?_
        refine x_iconst (v := 2) hc rfl dX7_put_38 ?_
        obtain ⟨x14, G13, r15, hf⟩ := bj2_ok hf
        refine x_callVr (As := [.int 2]) (p0 := 0) (v := (.int x14)) (T := TX7) hc (c_X7_found (kl K) (kV K) 2 G x14 G13 r15) mw_X7_found tw_314 (rfl : kd 0 = 7) (by decide) rfl rfl (Nat.le_of_ble_eq_true rfl) ⟨Nat.le_of_ble_eq_true rfl, Nat.le_of_ble_eq_true rfl⟩ dX7_put_39 rfl ?_
        cases hf
        exact x_iret hc rfl ho dX7_put_42
    · replace hf := if_p hf c_19
      refine x_aload_n hc 0 dX7_put_22 rfl rfl ?_
      refine x_iconst (v := 1) hc rfl dX7_put_23 ?_
      obtain ⟨x17, G16, r18, hf⟩ := bj2_ok hf
      refine x_callVr (As := [.int 1]) (p0 := 0) (v := (.int x17)) (T := TX7) hc (c_X7_found (kl K) (kV K) 1 G x17 G16 r18) mw_X7_found tw_314 (rfl : kd 0 = 7) (by decide) rfl rfl (Nat.le_of_ble_eq_true rfl) ⟨Nat.le_of_ble_eq_true rfl, Nat.le_of_ble_eq_true rfl⟩ dX7_put_24 rfl ?_
      cases hf
      exact x_iret hc rfl ho dX7_put_27
def f_X7_wrongSlice_l26_6 (a0 : Nat) (G : G_) : Nat → Int32 → Option Int32
  | 0, _ => none
  | n6 + 1, v5 =>
    if G.1 a0 1 ≤ v5 then (
      some 0)
    else (
      bj1 (f_X4_value a0 v5 G) fun x7 =>
      bj1 (f_X7_within x7 0 2) fun x9 =>
      if x9 = 0 then (
        some 3)
      else (
        f_X7_wrongSlice_l26_6 a0 G n6 (v5 + 1)))
def f_X7_wrongSlice (a0 : Nat) (G : G_) : Option Int32 :=
  chk (kd a0 == 4) <|
  bj1 (f_X4_there a0 G) fun x1 =>
  if x1 = 0 then (
    some 1)
  else (
    bj1 (f_X7_within (G.1 a0 1) 3 20) fun x3 =>
    if x3 = 0 then (
      some 5)
    else (
      f_X7_wrongSlice_l26_6 a0 G FU 0))
set_option maxHeartbeats 4000000 in
set_option maxRecDepth 100000 in
theorem c_X7_wrongSlice_l26_6 {K : CT} (a0 : Nat) (G : G_) (r : Int32) (hc : Ok K cX7_wrongSlice RX7 (Cond.code yX7_wrongSlice cX7_wrongSlice 2 (some .int) :: TB) (some .int) 2 42 2) (k_a0 : (kd a0 == 4) = true) : ∀ (n6 : Nat) (v5 : Int32), f_X7_wrongSlice_l26_6 a0 G n6 v5 = some r → Rets K (some (.int r)) G → X K 26 [(0, .ref (kad K a0)), (1, .int v5)] [] G := by
  intro n6
  induction n6 with
  | zero =>
    intro v5 hf ho
    cases hf
  | succ n6 ih =>
    intro v5 hf ho
    unfold f_X7_wrongSlice_l26_6 at hf
    refine x_iload_n hc 1 dX7_wrongSlice_26 rfl rfl ?_
    refine x_aload_n hc 0 dX7_wrongSlice_27 rfl rfl ?_
    refine x_getI (T := TX4) (p0 := a0) hc in_X4 rfl (by decide) (kdb k_a0) 1 (by decide) tw_220 rfl rfl dX7_wrongSlice_28 ?_
    refine x_icmp_ge (tgt := 55) hc dX7_wrongSlice_31 rfl (fun c_31 => ?_) (fun c_31 => ?_)
    · replace hf := if_p hf c_31
      refine x_iconst (v := 0) hc rfl dX7_wrongSlice_55 ?_
      cases hf
      exact x_iret hc rfl ho dX7_wrongSlice_56
    · replace hf := if_n hf c_31
      refine x_aload_n hc 0 dX7_wrongSlice_34 rfl rfl ?_
      refine x_iload_n hc 1 dX7_wrongSlice_35 rfl rfl ?_
      obtain ⟨x7, r8, hf⟩ := bj1_ok hf
      refine x_callVr (As := [.int v5]) (p0 := a0) (v := (.int x7)) (T := TX4) hc (c_X4_value (kl K) (kV K) a0 v5 G x7 r8) mw_X4_value tw_579 (kdb k_a0) (by decide) rfl rfl (Nat.le_of_ble_eq_true rfl) ⟨Nat.le_of_ble_eq_true rfl, Nat.le_of_ble_eq_true rfl⟩ dX7_wrongSlice_36 rfl ?_
      refine x_iconst (v := 0) hc rfl dX7_wrongSlice_39 ?_
      refine x_iconst (v := 2) hc rfl dX7_wrongSlice_40 ?_
      obtain ⟨x9, r10, hf⟩ := bj1_ok hf
      refine x_callSr (As := [.int x7, .int 0, .int 2]) (v := (.int x9)) hc (c_X7_within (kl K) (kV K) x7 0 2 G x9 r10) mw_X7_within tw_401 rfl (Nat.le_of_ble_eq_true rfl) ⟨Nat.le_of_ble_eq_true rfl, Nat.le_of_ble_eq_true rfl⟩ dX7_wrongSlice_41 rfl ?_
      refine x_if_ne (tgt := 49) hc dX7_wrongSlice_44 rfl (fun c_44 => ?_) (fun c_44 => ?_)
      · replace hf := if_n hf c_44
        refine x_iinc (v := v5 + 1) (L' := [(0, .ref (kad K a0)), (1, .int (v5 + 1))]) hc 1 [1, 0] dX7_wrongSlice_49 rfl rfl (by decide) rfl ?_
        refine x_goto (tgt := 26) hc dX7_wrongSlice_52 rfl ?_
        exact x_sub [0, 1] (ih _ hf ho) rfl
      · replace hf := if_p hf c_44
        refine x_iconst (v := 3) hc rfl dX7_wrongSlice_47 ?_
        cases hf
        exact x_iret hc rfl ho dX7_wrongSlice_48
set_option maxHeartbeats 4000000 in
set_option maxRecDepth 100000 in
theorem c_X7_wrongSlice (l : Launch) (V : VT) (a0 : Nat) (G : G_) (r : Int32) (hf : f_X7_wrongSlice a0 G = some r) : MC l V yX7_wrongSlice cX7_wrongSlice 2 (some .int) 2 42 [.ref (V.2.2.1 a0)] G (some (.int r)) G := by
  refine mc_of (by decide) (Nat.le_of_ble_eq_true rfl) (fun K hV ho hc hkl => ?_)
  subst hV
  replace hc : Ok K cX7_wrongSlice RX7 (Cond.code yX7_wrongSlice cX7_wrongSlice 2 (some .int) :: TB) (some .int) 2 42 2 := hc
  replace ho : Rets K (some (.int r)) G := ho
  show X K 0 [(0, .ref (kad K a0))] [] G
  unfold f_X7_wrongSlice at hf
  obtain ⟨k_a0, hf⟩ := chk_ok hf
  refine x_aload_n hc 0 dX7_wrongSlice_0 rfl rfl ?_
  obtain ⟨x1, r2, hf⟩ := bj1_ok hf
  refine x_callVr (As := []) (p0 := a0) (v := (.int x1)) (T := TX4) hc (c_X4_there (kl K) (kV K) a0 G x1 r2) mw_X4_there tw_575 (kdb k_a0) (by decide) rfl rfl (Nat.le_of_ble_eq_true rfl) ⟨Nat.le_of_ble_eq_true rfl, Nat.le_of_ble_eq_true rfl⟩ dX7_wrongSlice_1 rfl ?_
  refine x_if_ne (tgt := 9) hc dX7_wrongSlice_4 rfl (fun c_4 => ?_) (fun c_4 => ?_)
  · replace hf := if_n hf c_4
    refine x_aload_n hc 0 dX7_wrongSlice_9 rfl rfl ?_
    refine x_getI (T := TX4) (p0 := a0) hc in_X4 rfl (by decide) (kdb k_a0) 1 (by decide) tw_220 rfl rfl dX7_wrongSlice_10 ?_
    refine x_iconst (v := 3) hc rfl dX7_wrongSlice_13 ?_
    refine x_bipush (v := 20) hc rfl dX7_wrongSlice_14 ?_
    obtain ⟨x3, r4, hf⟩ := bj1_ok hf
    refine x_callSr (As := [.int (G.1 a0 1), .int 3, .int 20]) (v := (.int x3)) hc (c_X7_within (kl K) (kV K) (G.1 a0 1) 3 20 G x3 r4) mw_X7_within tw_401 rfl (Nat.le_of_ble_eq_true rfl) ⟨Nat.le_of_ble_eq_true rfl, Nat.le_of_ble_eq_true rfl⟩ dX7_wrongSlice_16 rfl ?_
    refine x_if_ne (tgt := 24) hc dX7_wrongSlice_19 rfl (fun c_19 => ?_) (fun c_19 => ?_)
    · replace hf := if_n hf c_19
      refine x_iconst (v := 0) hc rfl dX7_wrongSlice_24 ?_
      refine x_istore_n (L' := [(0, .ref (kad K a0)), (1, .int 0)]) hc [1, 0] dX7_wrongSlice_25 rfl (by decide) rfl ?_
      exact x_sub [0, 1] (c_X7_wrongSlice_l26_6 a0 G r hc k_a0 FU 0 hf ho) rfl
    · replace hf := if_p hf c_19
      refine x_iconst (v := 5) hc rfl dX7_wrongSlice_22 ?_
      cases hf
      exact x_iret hc rfl ho dX7_wrongSlice_23
  · replace hf := if_p hf c_4
    refine x_iconst (v := 1) hc rfl dX7_wrongSlice_7 ?_
    cases hf
    exact x_iret hc rfl ho dX7_wrongSlice_8
def f_X7_skinsOf_l4_3 (a1 : Int32) (G : G_) : Nat → Int32 → Int32 → Option (Int32)
  | 0, _, _ => none
  | n3 + 1, v1, v2 =>
    if G.1 5 7 = 0 then (
      some (v1))
    else (
      if 2 ≤ v2 then (
        some (v1))
      else (
        bj1 (f_X0_kindOf 5 v2 G) fun x4 =>
        bj1 (f_X7_isOf x4 a1 G) fun x6 =>
        bj1 (
          if x6 = 0 then (
            some (0))
          else (
            some (1))) fun (x9 : Int32) =>
        f_X7_skinsOf_l4_3 a1 G n3 (v1 + x9) (v2 + 1)))
def f_X7_skinsOf (a1 : Int32) (G : G_) : Option Int32 :=
  bj1 (f_X7_skinsOf_l4_3 a1 G FU 0 0) fun x10 =>
  some x10
set_option maxHeartbeats 4000000 in
set_option maxRecDepth 100000 in
theorem c_X7_skinsOf_l4_3 {K : CT} (a1 : Int32) (G : G_) (hc : Ok K cX7_skinsOf RX7 (Cond.code yX7_skinsOf cX7_skinsOf 4 (some .int) :: TB) (some .int) 2 45 4)  : ∀ (n3 : Nat) (v1 : Int32) (v2 : Int32) (x10 : Int32), f_X7_skinsOf_l4_3 a1 G n3 v1 v2 = some (x10) → X K 48 [(2, .int x10)] [] G → X K 4 [(0, .ref (kad K 0)), (1, .int a1), (2, .int v1), (3, .int v2)] [] G := by
  intro n3
  induction n3 with
  | zero =>
    intro v1 v2 x10 hf hk
    cases hf
  | succ n3 ih =>
    intro v1 v2 x10 hf hk
    unfold f_X7_skinsOf_l4_3 at hf
    refine x_aload_n hc 0 dX7_skinsOf_4 rfl rfl ?_
    refine x_getR (T := TX7) (p0 := 0) hc in_X7 rfl (by decide) (rfl : kd 0 = 7) 4 (by decide) tw_244 rfl rfl dX7_skinsOf_5 ?_
    refine x_getI (T := TX0) (p0 := 5) hc in_X0 rfl (by decide) (sh_X7_dish (rfl : kd 0 = 7)) 7 (by decide) tw_101 rfl rfl dX7_skinsOf_8 ?_
    refine x_if_eq (tgt := 48) hc dX7_skinsOf_11 rfl (fun c_11 => ?_) (fun c_11 => ?_)
    · replace hf := if_p hf c_11
      cases hf
      exact x_sub [2] hk rfl
    · replace hf := if_n hf c_11
      refine x_iload_n hc 3 dX7_skinsOf_14 rfl rfl ?_
      refine x_iconst (v := 2) hc rfl dX7_skinsOf_15 ?_
      refine x_icmp_ge (tgt := 48) hc dX7_skinsOf_16 rfl (fun c_16 => ?_) (fun c_16 => ?_)
      · replace hf := if_p hf c_16
        cases hf
        exact x_sub [2] hk rfl
      · replace hf := if_n hf c_16
        refine x_iload_n hc 2 dX7_skinsOf_19 rfl rfl ?_
        refine x_aload_n hc 0 dX7_skinsOf_20 rfl rfl ?_
        refine x_getR (T := TX7) (p0 := 0) hc in_X7 rfl (by decide) (rfl : kd 0 = 7) 4 (by decide) tw_244 rfl rfl dX7_skinsOf_21 ?_
        refine x_iload_n hc 3 dX7_skinsOf_24 rfl rfl ?_
        obtain ⟨x4, r5, hf⟩ := bj1_ok hf
        refine x_callVr (As := [.int v2]) (p0 := 5) (v := (.int x4)) (T := TX0) hc (c_X0_kindOf (kl K) (kV K) 5 v2 G x4 r5) mw_X0_kindOf tw_632 (sh_X7_dish (rfl : kd 0 = 7)) (by decide) rfl rfl (Nat.le_of_ble_eq_true rfl) ⟨Nat.le_of_ble_eq_true rfl, Nat.le_of_ble_eq_true rfl⟩ dX7_skinsOf_25 rfl ?_
        refine x_iload_n hc 1 dX7_skinsOf_28 rfl rfl ?_
        obtain ⟨x6, r7, hf⟩ := bj1_ok hf
        refine x_callSr (As := [.int x4, .int a1]) (v := (.int x6)) hc (c_X7_isOf (kl K) (kV K) x4 a1 G x6 r7) mw_X7_isOf tw_633 rfl (Nat.le_of_ble_eq_true rfl) ⟨Nat.le_of_ble_eq_true rfl, Nat.le_of_ble_eq_true rfl⟩ dX7_skinsOf_29 rfl ?_
        obtain ⟨x9, hr, hf⟩ := bj1_ok hf
        have hj_40_8 : X K 40 [(0, .ref (kad K 0)), (1, .int a1), (3, .int v2)] [.int x9, .int v1] G := by
          clear hr
          refine x_iadd hc dX7_skinsOf_40 ?_
          refine x_istore_n (L' := [(0, .ref (kad K 0)), (1, .int a1), (2, .int (v1 + x9)), (3, .int v2)]) hc [1, 2, 0, 3] dX7_skinsOf_41 rfl (by decide) rfl ?_
          refine x_iinc (v := v2 + 1) (L' := [(0, .ref (kad K 0)), (1, .int a1), (2, .int (v1 + x9)), (3, .int (v2 + 1))]) hc 3 [1, 2, 3, 0] dX7_skinsOf_42 rfl rfl (by decide) rfl ?_
          refine x_goto (tgt := 4) hc dX7_skinsOf_45 rfl ?_
          exact x_sub [0, 1, 2, 3] (ih _ _ _ hf hk) rfl
        replace hf := hr
        clear hr
        refine x_if_eq (tgt := 39) hc dX7_skinsOf_32 rfl (fun c_32 => ?_) (fun c_32 => ?_)
        · replace hf := if_p hf c_32
          refine x_iconst (v := 0) hc rfl dX7_skinsOf_39 ?_
          cases hf
          exact x_sub [0, 1, 3] hj_40_8 rfl
        · replace hf := if_n hf c_32
          refine x_iconst (v := 1) hc rfl dX7_skinsOf_35 ?_
          refine x_goto (tgt := 40) hc dX7_skinsOf_36 rfl ?_
          cases hf
          exact x_sub [0, 1, 3] hj_40_8 rfl
set_option maxHeartbeats 4000000 in
set_option maxRecDepth 100000 in
theorem c_X7_skinsOf (l : Launch) (V : VT) (a1 : Int32) (G : G_) (r : Int32) (hf : f_X7_skinsOf a1 G = some r) : MC l V yX7_skinsOf cX7_skinsOf 4 (some .int) 2 45 [.ref (V.2.2.1 0), .int a1] G (some (.int r)) G := by
  refine mc_of (by decide) (Nat.le_of_ble_eq_true rfl) (fun K hV ho hc hkl => ?_)
  subst hV
  replace hc : Ok K cX7_skinsOf RX7 (Cond.code yX7_skinsOf cX7_skinsOf 4 (some .int) :: TB) (some .int) 2 45 4 := hc
  replace ho : Rets K (some (.int r)) G := ho
  show X K 0 [(0, .ref (kad K 0)), (1, .int a1)] [] G
  unfold f_X7_skinsOf at hf
  refine x_iconst (v := 0) hc rfl dX7_skinsOf_0 ?_
  refine x_istore_n (L' := [(0, .ref (kad K 0)), (1, .int a1), (2, .int 0)]) hc [1, 2, 0] dX7_skinsOf_1 rfl (by decide) rfl ?_
  refine x_iconst (v := 0) hc rfl dX7_skinsOf_2 ?_
  refine x_istore_n (L' := [(0, .ref (kad K 0)), (1, .int a1), (2, .int 0), (3, .int 0)]) hc [1, 2, 3, 0] dX7_skinsOf_3 rfl (by decide) rfl ?_
  obtain ⟨x10, hl_4, hf⟩ := bj1_ok hf
  have he_48_n3 : X K 48 [(2, .int x10)] [] G := by
    clear hl_4
    refine x_iload_n hc 0 dX7_skinsOf_48 rfl rfl ?_
    cases hf
    exact x_iret hc rfl ho dX7_skinsOf_49
  exact x_sub [0, 1, 2, 3] (c_X7_skinsOf_l4_3 a1 G hc  FU 0 0 x10 hl_4 he_48_n3) rfl
def f_X7_dish (a1 : Int32) (a2 : Int32) (G : G_) : Option (Int32 × G_) :=
  bj1 (f_X7_slabAt a1 G) fun o1 =>
  bj1 (f_X7_planAt a2 G) fun o3 =>
  mo o1 (
    some ((-1), G)) (fun p5 =>
    chk (kd p5 == 5) <|
    mo o3 (
      some ((-1), G)) (fun p7 =>
      chk (kd p7 == 2) <|
      if G.1 p5 0 = 0 then (
        bj2 (f_X7_found 1 G) fun x10 G9 =>
        some (x10, G9))
      else (
        if G.1 p7 3 = 0 then (
          bj2 (f_X7_found 1 G) fun x18 G17 =>
          some (x18, G17))
        else (
          bj1 (f_X0_begin 5 p5 (G.1 p5 1) (G.1 p5 3) G) fun G12 =>
          bj1 (f_X2_become 12 p7 G12) fun G14 =>
          nm (sI G14 5 7 1) fun G16 =>
          some (G16.1 p7 5, G16)))))
set_option maxHeartbeats 4000000 in
set_option maxRecDepth 100000 in
theorem c_X7_dish (l : Launch) (V : VT) (a1 : Int32) (a2 : Int32) (G : G_) (r : Int32) (G' : G_) (hf : f_X7_dish a1 a2 G = some (r, G')) : MC l V yX7_dish cX7_dish 5 (some .int) 3 64 [.ref (V.2.2.1 0), .int a1, .int a2] G (some (.int r)) G' := by
  refine mc_of (by decide) (Nat.le_of_ble_eq_true rfl) (fun K hV ho hc hkl => ?_)
  subst hV
  replace hc : Ok K cX7_dish RX7 (Cond.code yX7_dish cX7_dish 5 (some .int) :: TB) (some .int) 3 64 5 := hc
  replace ho : Rets K (some (.int r)) G' := ho
  show X K 0 [(0, .ref (kad K 0)), (1, .int a1), (2, .int a2)] [] G
  unfold f_X7_dish at hf
  refine x_aload_n hc 0 dX7_dish_0 rfl rfl ?_
  refine x_iload_n hc 1 dX7_dish_1 rfl rfl ?_
  obtain ⟨o1, r2, hf⟩ := bj1_ok hf
  refine x_callVr (As := [.int a1]) (p0 := 0) (v := (rfo K o1)) (T := TX7) hc (c_X7_slabAt (kl K) (kV K) a1 G o1 r2) mw_X7_slabAt tw_382 (rfl : kd 0 = 7) (by decide) rfl rfl (Nat.le_of_ble_eq_true rfl) ⟨Nat.le_of_ble_eq_true rfl, Nat.le_of_ble_eq_true rfl⟩ dX7_dish_2 rfl ?_
  refine x_astore_nO (L' := [(0, .ref (kad K 0)), (2, .int a2), (3, rfo K o1)]) hc [1, 3, 0] dX7_dish_5 rfl (by decide) rfl ?_
  refine x_aload_n hc 0 dX7_dish_6 rfl rfl ?_
  refine x_iload_n hc 1 dX7_dish_7 rfl rfl ?_
  obtain ⟨o3, r4, hf⟩ := bj1_ok hf
  refine x_callVr (As := [.int a2]) (p0 := 0) (v := (rfo K o3)) (T := TX7) hc (c_X7_planAt (kl K) (kV K) a2 G o3 r4) mw_X7_planAt tw_302 (rfl : kd 0 = 7) (by decide) rfl rfl (Nat.le_of_ble_eq_true rfl) ⟨Nat.le_of_ble_eq_true rfl, Nat.le_of_ble_eq_true rfl⟩ dX7_dish_8 rfl ?_
  refine x_astoreO (L' := [(0, .ref (kad K 0)), (3, rfo K o1), (4, rfo K o3)]) hc [1, 3, 0] dX7_dish_11 (by decide) (by cases o1 <;> rfl) ?_
  refine x_aload_nO hc 1 dX7_dish_13 rfl rfl ?_
  cases o1 with
  | none =>
    replace hf := mo_n hf
    show X K 14 [(0, .ref (kad K 0)), (3, .null), (4, rfo K o3)] [.null] G
    refine x_ifnullN (tgt := 22) hc dX7_dish_14 rfl ?_
    refine x_iconst (v := (-1)) hc rfl dX7_dish_22 ?_
    cases hf
    exact x_iret hc rfl ho dX7_dish_23
  | some p5 =>
    replace hf := mo_s hf
    obtain ⟨k6, hf⟩ := chk_ok hf
    show X K 14 [(0, .ref (kad K 0)), (3, .ref (kad K p5)), (4, rfo K o3)] [.ref (kad K p5)] G
    refine x_ifnullR hc dX7_dish_14 ?_
    refine x_aloadO hc 2 dX7_dish_17 rfl ?_
    cases o3 with
    | none =>
      replace hf := mo_n hf
      show X K 19 [(0, .ref (kad K 0)), (3, .ref (kad K p5)), (4, .null)] [.null] G
      refine x_ifnonnullN hc dX7_dish_19 ?_
      refine x_iconst (v := (-1)) hc rfl dX7_dish_22 ?_
      cases hf
      exact x_iret hc rfl ho dX7_dish_23
    | some p7 =>
      replace hf := mo_s hf
      obtain ⟨k8, hf⟩ := chk_ok hf
      show X K 19 [(0, .ref (kad K 0)), (3, .ref (kad K p5)), (4, .ref (kad K p7))] [.ref (kad K p7)] G
      refine x_ifnonnullR (tgt := 24) hc dX7_dish_19 rfl ?_
      refine x_aload_n hc 1 dX7_dish_24 rfl rfl ?_
      refine x_getI (T := TX5) (p0 := p5) hc in_X5 rfl (by decide) (kdb k6) 0 (by decide) tw_169 rfl rfl dX7_dish_25 ?_
      refine x_if_eq (tgt := 39) hc dX7_dish_28 rfl (fun c_28 => ?_) (fun c_28 => ?_)
      · replace hf := if_p hf c_28
        refine x_aload_n hc 0 dX7_dish_39 rfl rfl ?_
        refine x_iconst (v := 1) hc rfl dX7_dish_40 ?_
        obtain ⟨x10, G9, r11, hf⟩ := bj2_ok hf
        refine x_callVr (As := [.int 1]) (p0 := 0) (v := (.int x10)) (T := TX7) hc (c_X7_found (kl K) (kV K) 1 G x10 G9 r11) mw_X7_found tw_314 (rfl : kd 0 = 7) (by decide) rfl rfl (Nat.le_of_ble_eq_true rfl) ⟨Nat.le_of_ble_eq_true rfl, Nat.le_of_ble_eq_true rfl⟩ dX7_dish_41 rfl ?_
        cases hf
        exact x_iret hc rfl ho dX7_dish_44
      · replace hf := if_n hf c_28
        refine x_aload hc 2 dX7_dish_31 rfl ?_
        refine x_getI (T := TX2) (p0 := p7) hc in_X2 rfl (by decide) (kdb k8) 3 (by decide) tw_70 rfl rfl dX7_dish_33 ?_
        refine x_if_ne (tgt := 45) hc dX7_dish_36 rfl (fun c_36 => ?_) (fun c_36 => ?_)
        · replace hf := if_n hf c_36
          refine x_aload_n hc 0 dX7_dish_45 rfl rfl ?_
          refine x_getR (T := TX7) (p0 := 0) hc in_X7 rfl (by decide) (rfl : kd 0 = 7) 4 (by decide) tw_244 rfl rfl dX7_dish_46 ?_
          refine x_aload_n hc 1 dX7_dish_49 rfl rfl ?_
          refine x_aload_n hc 1 dX7_dish_50 rfl rfl ?_
          refine x_getI (T := TX5) (p0 := p5) hc in_X5 rfl (by decide) (kdb k6) 1 (by decide) tw_173 rfl rfl dX7_dish_51 ?_
          refine x_aload_n hc 1 dX7_dish_54 rfl rfl ?_
          refine x_getI (T := TX5) (p0 := p5) hc in_X5 rfl (by decide) (kdb k6) 3 (by decide) tw_180 rfl rfl dX7_dish_55 ?_
          obtain ⟨G12, r13, hf⟩ := bj1_ok hf
          refine x_callVv (As := [.ref (kad K p5), .int (G.1 p5 1), .int (G.1 p5 3)]) (p0 := 5) (T := TX0) hc (c_X0_begin (kl K) (kV K) 5 p5 (G.1 p5 1) (G.1 p5 3) G G12 r13) mw_X0_begin tw_386 (sh_X7_dish (rfl : kd 0 = 7)) (by decide) rfl rfl (Nat.le_of_ble_eq_true rfl) ⟨Nat.le_of_ble_eq_true rfl, Nat.le_of_ble_eq_true rfl⟩ dX7_dish_58 rfl ?_
          refine x_aload_n hc 0 dX7_dish_61 rfl rfl ?_
          refine x_getR (T := TX7) (p0 := 0) hc in_X7 rfl (by decide) (rfl : kd 0 = 7) 4 (by decide) tw_244 rfl rfl dX7_dish_62 ?_
          refine x_getR (T := TX0) (p0 := 5) hc in_X0 rfl (by decide) (sh_X7_dish (rfl : kd 0 = 7)) 6 (by decide) tw_99 rfl rfl dX7_dish_65 ?_
          refine x_aload hc 2 dX7_dish_68 rfl ?_
          obtain ⟨G14, r15, hf⟩ := bj1_ok hf
          refine x_callVv (As := [.ref (kad K p7)]) (p0 := 12) (T := TX2) hc (c_X2_become (kl K) (kV K) 12 p7 G12 G14 r15) mw_X2_become tw_356 (sh_X0_plan (sh_X7_dish (rfl : kd 0 = 7))) (by decide) rfl rfl (Nat.le_of_ble_eq_true rfl) ⟨Nat.le_of_ble_eq_true rfl, Nat.le_of_ble_eq_true rfl⟩ dX7_dish_70 rfl ?_
          refine x_aload_n hc 0 dX7_dish_73 rfl rfl ?_
          refine x_getR (T := TX7) (p0 := 0) hc in_X7 rfl (by decide) (rfl : kd 0 = 7) 4 (by decide) tw_244 rfl rfl dX7_dish_74 ?_
          refine x_iconst (v := 1) hc rfl dX7_dish_77 ?_
          refine x_putZ (T := TX0) (p0 := 5) hc tyX0 tyX0_ok nmX0 in_X0 rfl (by decide) (sh_X7_dish (rfl : kd 0 = 7)) 7 (by decide) tw_101 rfl rfl rfl rfl (by decide +kernel) dX7_dish_78 ?_
          refine x_nmg (fun G16 e_G16 => ?_)
          replace hf := nm_ok hf G16 e_G16
          refine x_aload hc 2 dX7_dish_81 rfl ?_
          refine x_getI (T := TX2) (p0 := p7) hc in_X2 rfl (by decide) (kdb k8) 5 (by decide) tw_77 rfl rfl dX7_dish_83 ?_
          cases hf
          exact x_iret hc rfl ho dX7_dish_86
        · replace hf := if_p hf c_36
          refine x_aload_n hc 0 dX7_dish_39 rfl rfl ?_
          refine x_iconst (v := 1) hc rfl dX7_dish_40 ?_
          obtain ⟨x18, G17, r19, hf⟩ := bj2_ok hf
          refine x_callVr (As := [.int 1]) (p0 := 0) (v := (.int x18)) (T := TX7) hc (c_X7_found (kl K) (kV K) 1 G x18 G17 r19) mw_X7_found tw_314 (rfl : kd 0 = 7) (by decide) rfl rfl (Nat.le_of_ble_eq_true rfl) ⟨Nat.le_of_ble_eq_true rfl, Nat.le_of_ble_eq_true rfl⟩ dX7_dish_41 rfl ?_
          cases hf
          exact x_iret hc rfl ho dX7_dish_44
def f_X7_depth (a1 : Int32) (a2 : Int32) (G : G_) : Option (Int32 × G_) :=
  bj1 (f_X7_within a1 0 19) fun x1 =>
  if x1 = 0 then (
    some ((-1), G))
  else (
    bj1 (f_X7_within a2 0 2) fun x3 =>
    if x3 = 0 then (
      some ((-1), G))
    else (
      if G.1 5 7 = 0 then (
        some ((-4), G))
      else (
        if a1 < G.1 5 8 then (
          bj1 (f_X0_depthTells 5 a1 a2 G) fun x5 =>
          bj2 (f_X7_told 1 x5 G) fun x8 G7 =>
          some (x8, G7))
        else (
          bj2 (f_X7_found 2 G) fun x11 G10 =>
          some (x11, G10)))))
set_option maxHeartbeats 4000000 in
set_option maxRecDepth 100000 in
theorem c_X7_depth (l : Launch) (V : VT) (a1 : Int32) (a2 : Int32) (G : G_) (r : Int32) (G' : G_) (hf : f_X7_depth a1 a2 G = some (r, G')) : MC l V yX7_depth cX7_depth 3 (some .int) 3 64 [.ref (V.2.2.1 0), .int a1, .int a2] G (some (.int r)) G' := by
  refine mc_of (by decide) (Nat.le_of_ble_eq_true rfl) (fun K hV ho hc hkl => ?_)
  subst hV
  replace hc : Ok K cX7_depth RX7 (Cond.code yX7_depth cX7_depth 3 (some .int) :: TB) (some .int) 3 64 3 := hc
  replace ho : Rets K (some (.int r)) G' := ho
  show X K 0 [(0, .ref (kad K 0)), (1, .int a1), (2, .int a2)] [] G
  unfold f_X7_depth at hf
  refine x_iload_n hc 1 dX7_depth_0 rfl rfl ?_
  refine x_iconst (v := 0) hc rfl dX7_depth_1 ?_
  refine x_bipush (v := 19) hc rfl dX7_depth_2 ?_
  obtain ⟨x1, r2, hf⟩ := bj1_ok hf
  refine x_callSr (As := [.int a1, .int 0, .int 19]) (v := (.int x1)) hc (c_X7_within (kl K) (kV K) a1 0 19 G x1 r2) mw_X7_within tw_401 rfl (Nat.le_of_ble_eq_true rfl) ⟨Nat.le_of_ble_eq_true rfl, Nat.le_of_ble_eq_true rfl⟩ dX7_depth_4 rfl ?_
  refine x_if_eq (tgt := 19) hc dX7_depth_7 rfl (fun c_7 => ?_) (fun c_7 => ?_)
  · replace hf := if_p hf c_7
    refine x_iconst (v := (-1)) hc rfl dX7_depth_19 ?_
    cases hf
    exact x_iret hc rfl ho dX7_depth_20
  · replace hf := if_n hf c_7
    refine x_iload_n hc 2 dX7_depth_10 rfl rfl ?_
    refine x_iconst (v := 0) hc rfl dX7_depth_11 ?_
    refine x_iconst (v := 2) hc rfl dX7_depth_12 ?_
    obtain ⟨x3, r4, hf⟩ := bj1_ok hf
    refine x_callSr (As := [.int a2, .int 0, .int 2]) (v := (.int x3)) hc (c_X7_within (kl K) (kV K) a2 0 2 G x3 r4) mw_X7_within tw_401 rfl (Nat.le_of_ble_eq_true rfl) ⟨Nat.le_of_ble_eq_true rfl, Nat.le_of_ble_eq_true rfl⟩ dX7_depth_13 rfl ?_
    refine x_if_ne (tgt := 21) hc dX7_depth_16 rfl (fun c_16 => ?_) (fun c_16 => ?_)
    · replace hf := if_n hf c_16
      refine x_aload_n hc 0 dX7_depth_21 rfl rfl ?_
      refine x_getR (T := TX7) (p0 := 0) hc in_X7 rfl (by decide) (rfl : kd 0 = 7) 4 (by decide) tw_244 rfl rfl dX7_depth_22 ?_
      refine x_getI (T := TX0) (p0 := 5) hc in_X0 rfl (by decide) (sh_X7_dish (rfl : kd 0 = 7)) 7 (by decide) tw_101 rfl rfl dX7_depth_25 ?_
      refine x_if_ne (tgt := 34) hc dX7_depth_28 rfl (fun c_28 => ?_) (fun c_28 => ?_)
      · replace hf := if_n hf c_28
        refine x_iload_n hc 1 dX7_depth_34 rfl rfl ?_
        refine x_aload_n hc 0 dX7_depth_35 rfl rfl ?_
        refine x_getR (T := TX7) (p0 := 0) hc in_X7 rfl (by decide) (rfl : kd 0 = 7) 4 (by decide) tw_244 rfl rfl dX7_depth_36 ?_
        refine x_getI (T := TX0) (p0 := 5) hc in_X0 rfl (by decide) (sh_X7_dish (rfl : kd 0 = 7)) 8 (by decide) tw_103 rfl rfl dX7_depth_39 ?_
        refine x_icmp_lt (tgt := 51) hc dX7_depth_42 rfl (fun c_42 => ?_) (fun c_42 => ?_)
        · replace hf := if_p hf c_42
          refine x_aload_n hc 0 dX7_depth_51 rfl rfl ?_
          refine x_iconst (v := 1) hc rfl dX7_depth_52 ?_
          refine x_aload_n hc 0 dX7_depth_53 rfl rfl ?_
          refine x_getR (T := TX7) (p0 := 0) hc in_X7 rfl (by decide) (rfl : kd 0 = 7) 4 (by decide) tw_244 rfl rfl dX7_depth_54 ?_
          refine x_iload_n hc 1 dX7_depth_57 rfl rfl ?_
          refine x_iload_n hc 2 dX7_depth_58 rfl rfl ?_
          obtain ⟨x5, r6, hf⟩ := bj1_ok hf
          refine x_callVr (As := [.int a1, .int a2]) (p0 := 5) (v := (.int x5)) (T := TX0) hc (c_X0_depthTells (kl K) (kV K) 5 a1 a2 G x5 r6) mw_X0_depthTells tw_437 (sh_X7_dish (rfl : kd 0 = 7)) (by decide) rfl rfl (Nat.le_of_ble_eq_true rfl) ⟨Nat.le_of_ble_eq_true rfl, Nat.le_of_ble_eq_true rfl⟩ dX7_depth_59 rfl ?_
          obtain ⟨x8, G7, r9, hf⟩ := bj2_ok hf
          refine x_callVr (As := [.int 1, .int x5]) (p0 := 0) (v := (.int x8)) (T := TX7) hc (c_X7_told (kl K) (kV K) 1 x5 G x8 G7 r9) mw_X7_told tw_457 (rfl : kd 0 = 7) (by decide) rfl rfl (Nat.le_of_ble_eq_true rfl) ⟨Nat.le_of_ble_eq_true rfl, Nat.le_of_ble_eq_true rfl⟩ dX7_depth_62 rfl ?_
          cases hf
          exact x_iret hc rfl ho dX7_depth_65
        · replace hf := if_n hf c_42
          refine x_aload_n hc 0 dX7_depth_45 rfl rfl ?_
          refine x_iconst (v := 2) hc rfl dX7_depth_46 ?_
          obtain ⟨x11, G10, r12, hf⟩ := bj2_ok hf
          refine x_callVr (As := [.int 2]) (p0 := 0) (v := (.int x11)) (T := TX7) hc (c_X7_found (kl K) (kV K) 2 G x11 G10 r12) mw_X7_found tw_314 (rfl : kd 0 = 7) (by decide) rfl rfl (Nat.le_of_ble_eq_true rfl) ⟨Nat.le_of_ble_eq_true rfl, Nat.le_of_ble_eq_true rfl⟩ dX7_depth_47 rfl ?_
          cases hf
          exact x_iret hc rfl ho dX7_depth_50
      · replace hf := if_p hf c_28
        refine x_bipush (v := (-4)) hc rfl dX7_depth_31 ?_
        cases hf
        exact x_iret hc rfl ho dX7_depth_33
    · replace hf := if_p hf c_16
      refine x_iconst (v := (-1)) hc rfl dX7_depth_19 ?_
      cases hf
      exact x_iret hc rfl ho dX7_depth_20
def f_X7_skin (a1 : Int32) (a2 : Int32) (G : G_) : Option (Int32 × G_) :=
  bj1 (f_X7_within a1 0 1) fun x1 =>
  if x1 = 0 then (
    some ((-1), G))
  else (
    bj1 (f_X7_within a2 0 3) fun x3 =>
    if x3 = 0 then (
      some ((-1), G))
    else (
      if G.1 5 7 = 0 then (
        some ((-4), G))
      else (
        bj1 (f_X0_skinTells 5 a1 a2 G) fun x5 =>
        bj2 (f_X7_told 1 x5 G) fun x8 G7 =>
        some (x8, G7))))
set_option maxHeartbeats 4000000 in
set_option maxRecDepth 100000 in
theorem c_X7_skin (l : Launch) (V : VT) (a1 : Int32) (a2 : Int32) (G : G_) (r : Int32) (G' : G_) (hf : f_X7_skin a1 a2 G = some (r, G')) : MC l V yX7_skin cX7_skin 3 (some .int) 3 64 [.ref (V.2.2.1 0), .int a1, .int a2] G (some (.int r)) G' := by
  refine mc_of (by decide) (Nat.le_of_ble_eq_true rfl) (fun K hV ho hc hkl => ?_)
  subst hV
  replace hc : Ok K cX7_skin RX7 (Cond.code yX7_skin cX7_skin 3 (some .int) :: TB) (some .int) 3 64 3 := hc
  replace ho : Rets K (some (.int r)) G' := ho
  show X K 0 [(0, .ref (kad K 0)), (1, .int a1), (2, .int a2)] [] G
  unfold f_X7_skin at hf
  refine x_iload_n hc 1 dX7_skin_0 rfl rfl ?_
  refine x_iconst (v := 0) hc rfl dX7_skin_1 ?_
  refine x_iconst (v := 1) hc rfl dX7_skin_2 ?_
  obtain ⟨x1, r2, hf⟩ := bj1_ok hf
  refine x_callSr (As := [.int a1, .int 0, .int 1]) (v := (.int x1)) hc (c_X7_within (kl K) (kV K) a1 0 1 G x1 r2) mw_X7_within tw_401 rfl (Nat.le_of_ble_eq_true rfl) ⟨Nat.le_of_ble_eq_true rfl, Nat.le_of_ble_eq_true rfl⟩ dX7_skin_3 rfl ?_
  refine x_if_eq (tgt := 18) hc dX7_skin_6 rfl (fun c_6 => ?_) (fun c_6 => ?_)
  · replace hf := if_p hf c_6
    refine x_iconst (v := (-1)) hc rfl dX7_skin_18 ?_
    cases hf
    exact x_iret hc rfl ho dX7_skin_19
  · replace hf := if_n hf c_6
    refine x_iload_n hc 2 dX7_skin_9 rfl rfl ?_
    refine x_iconst (v := 0) hc rfl dX7_skin_10 ?_
    refine x_iconst (v := 3) hc rfl dX7_skin_11 ?_
    obtain ⟨x3, r4, hf⟩ := bj1_ok hf
    refine x_callSr (As := [.int a2, .int 0, .int 3]) (v := (.int x3)) hc (c_X7_within (kl K) (kV K) a2 0 3 G x3 r4) mw_X7_within tw_401 rfl (Nat.le_of_ble_eq_true rfl) ⟨Nat.le_of_ble_eq_true rfl, Nat.le_of_ble_eq_true rfl⟩ dX7_skin_12 rfl ?_
    refine x_if_ne (tgt := 20) hc dX7_skin_15 rfl (fun c_15 => ?_) (fun c_15 => ?_)
    · replace hf := if_n hf c_15
      refine x_aload_n hc 0 dX7_skin_20 rfl rfl ?_
      refine x_getR (T := TX7) (p0 := 0) hc in_X7 rfl (by decide) (rfl : kd 0 = 7) 4 (by decide) tw_244 rfl rfl dX7_skin_21 ?_
      refine x_getI (T := TX0) (p0 := 5) hc in_X0 rfl (by decide) (sh_X7_dish (rfl : kd 0 = 7)) 7 (by decide) tw_101 rfl rfl dX7_skin_24 ?_
      refine x_if_ne (tgt := 33) hc dX7_skin_27 rfl (fun c_27 => ?_) (fun c_27 => ?_)
      · replace hf := if_n hf c_27
        refine x_aload_n hc 0 dX7_skin_33 rfl rfl ?_
        refine x_iconst (v := 1) hc rfl dX7_skin_34 ?_
        refine x_aload_n hc 0 dX7_skin_35 rfl rfl ?_
        refine x_getR (T := TX7) (p0 := 0) hc in_X7 rfl (by decide) (rfl : kd 0 = 7) 4 (by decide) tw_244 rfl rfl dX7_skin_36 ?_
        refine x_iload_n hc 1 dX7_skin_39 rfl rfl ?_
        refine x_iload_n hc 2 dX7_skin_40 rfl rfl ?_
        obtain ⟨x5, r6, hf⟩ := bj1_ok hf
        refine x_callVr (As := [.int a1, .int a2]) (p0 := 5) (v := (.int x5)) (T := TX0) hc (c_X0_skinTells (kl K) (kV K) 5 a1 a2 G x5 r6) mw_X0_skinTells tw_465 (sh_X7_dish (rfl : kd 0 = 7)) (by decide) rfl rfl (Nat.le_of_ble_eq_true rfl) ⟨Nat.le_of_ble_eq_true rfl, Nat.le_of_ble_eq_true rfl⟩ dX7_skin_41 rfl ?_
        obtain ⟨x8, G7, r9, hf⟩ := bj2_ok hf
        refine x_callVr (As := [.int 1, .int x5]) (p0 := 0) (v := (.int x8)) (T := TX7) hc (c_X7_told (kl K) (kV K) 1 x5 G x8 G7 r9) mw_X7_told tw_457 (rfl : kd 0 = 7) (by decide) rfl rfl (Nat.le_of_ble_eq_true rfl) ⟨Nat.le_of_ble_eq_true rfl, Nat.le_of_ble_eq_true rfl⟩ dX7_skin_44 rfl ?_
        cases hf
        exact x_iret hc rfl ho dX7_skin_47
      · replace hf := if_p hf c_27
        refine x_bipush (v := (-4)) hc rfl dX7_skin_30 ?_
        cases hf
        exact x_iret hc rfl ho dX7_skin_32
    · replace hf := if_p hf c_15
      refine x_iconst (v := (-1)) hc rfl dX7_skin_18 ?_
      cases hf
      exact x_iret hc rfl ho dX7_skin_19
def f_X7_just (a1 : Int32) (a2 : Int32) (G : G_) : Option (Int32 × G_) :=
  bj1 (f_X7_isSpan a1 a2) fun x1 =>
  if x1 = 0 then (
    some ((-1), G))
  else (
    if G.1 5 7 = 0 then (
      some ((-4), G))
    else (
      bj1 (f_X0_justSo 5 a1 a2 G) fun x3 =>
      bj1 (f_X0_allJuice 5 G) fun x5 =>
      bj2 (f_X7_told x3 x5 G) fun x8 G7 =>
      some (x8, G7)))
set_option maxHeartbeats 4000000 in
set_option maxRecDepth 100000 in
theorem c_X7_just (l : Launch) (V : VT) (a1 : Int32) (a2 : Int32) (G : G_) (r : Int32) (G' : G_) (hf : f_X7_just a1 a2 G = some (r, G')) : MC l V yX7_just cX7_just 3 (some .int) 3 66 [.ref (V.2.2.1 0), .int a1, .int a2] G (some (.int r)) G' := by
  refine mc_of (by decide) (Nat.le_of_ble_eq_true rfl) (fun K hV ho hc hkl => ?_)
  subst hV
  replace hc : Ok K cX7_just RX7 (Cond.code yX7_just cX7_just 3 (some .int) :: TB) (some .int) 3 66 3 := hc
  replace ho : Rets K (some (.int r)) G' := ho
  show X K 0 [(0, .ref (kad K 0)), (1, .int a1), (2, .int a2)] [] G
  unfold f_X7_just at hf
  refine x_iload_n hc 1 dX7_just_0 rfl rfl ?_
  refine x_iload_n hc 2 dX7_just_1 rfl rfl ?_
  obtain ⟨x1, r2, hf⟩ := bj1_ok hf
  refine x_callSr (As := [.int a1, .int a2]) (v := (.int x1)) hc (c_X7_isSpan (kl K) (kV K) a1 a2 G x1 r2) mw_X7_isSpan tw_485 rfl (Nat.le_of_ble_eq_true rfl) ⟨Nat.le_of_ble_eq_true rfl, Nat.le_of_ble_eq_true rfl⟩ dX7_just_2 rfl ?_
  refine x_if_ne (tgt := 10) hc dX7_just_5 rfl (fun c_5 => ?_) (fun c_5 => ?_)
  · replace hf := if_n hf c_5
    refine x_aload_n hc 0 dX7_just_10 rfl rfl ?_
    refine x_getR (T := TX7) (p0 := 0) hc in_X7 rfl (by decide) (rfl : kd 0 = 7) 4 (by decide) tw_244 rfl rfl dX7_just_11 ?_
    refine x_getI (T := TX0) (p0 := 5) hc in_X0 rfl (by decide) (sh_X7_dish (rfl : kd 0 = 7)) 7 (by decide) tw_101 rfl rfl dX7_just_14 ?_
    refine x_if_ne (tgt := 23) hc dX7_just_17 rfl (fun c_17 => ?_) (fun c_17 => ?_)
    · replace hf := if_n hf c_17
      refine x_aload_n hc 0 dX7_just_23 rfl rfl ?_
      refine x_aload_n hc 0 dX7_just_24 rfl rfl ?_
      refine x_getR (T := TX7) (p0 := 0) hc in_X7 rfl (by decide) (rfl : kd 0 = 7) 4 (by decide) tw_244 rfl rfl dX7_just_25 ?_
      refine x_iload_n hc 1 dX7_just_28 rfl rfl ?_
      refine x_iload_n hc 2 dX7_just_29 rfl rfl ?_
      obtain ⟨x3, r4, hf⟩ := bj1_ok hf
      refine x_callVr (As := [.int a1, .int a2]) (p0 := 5) (v := (.int x3)) (T := TX0) hc (c_X0_justSo (kl K) (kV K) 5 a1 a2 G x3 r4) mw_X0_justSo tw_488 (sh_X7_dish (rfl : kd 0 = 7)) (by decide) rfl rfl (Nat.le_of_ble_eq_true rfl) ⟨Nat.le_of_ble_eq_true rfl, Nat.le_of_ble_eq_true rfl⟩ dX7_just_30 rfl ?_
      refine x_aload_n hc 0 dX7_just_33 rfl rfl ?_
      refine x_getR (T := TX7) (p0 := 0) hc in_X7 rfl (by decide) (rfl : kd 0 = 7) 4 (by decide) tw_244 rfl rfl dX7_just_34 ?_
      obtain ⟨x5, r6, hf⟩ := bj1_ok hf
      refine x_callVr (As := []) (p0 := 5) (v := (.int x5)) (T := TX0) hc (c_X0_allJuice (kl K) (kV K) 5 G x5 r6) mw_X0_allJuice tw_493 (sh_X7_dish (rfl : kd 0 = 7)) (by decide) rfl rfl (Nat.le_of_ble_eq_true rfl) ⟨Nat.le_of_ble_eq_true rfl, Nat.le_of_ble_eq_true rfl⟩ dX7_just_37 rfl ?_
      obtain ⟨x8, G7, r9, hf⟩ := bj2_ok hf
      refine x_callVr (As := [.int x3, .int x5]) (p0 := 0) (v := (.int x8)) (T := TX7) hc (c_X7_told (kl K) (kV K) x3 x5 G x8 G7 r9) mw_X7_told tw_457 (rfl : kd 0 = 7) (by decide) rfl rfl (Nat.le_of_ble_eq_true rfl) ⟨Nat.le_of_ble_eq_true rfl, Nat.le_of_ble_eq_true rfl⟩ dX7_just_40 rfl ?_
      cases hf
      exact x_iret hc rfl ho dX7_just_43
    · replace hf := if_p hf c_17
      refine x_bipush (v := (-4)) hc rfl dX7_just_20 ?_
      cases hf
      exact x_iret hc rfl ho dX7_just_22
  · replace hf := if_p hf c_5
    refine x_iconst (v := (-1)) hc rfl dX7_just_8 ?_
    cases hf
    exact x_iret hc rfl ho dX7_just_9
def f_X7_safe_l54_12 (a2 : Int32) : Nat → Int32 → Int32 → G_ → Option (Int32 × G_)
  | 0, _, _, _ => none
  | n12 + 1, v9, v10, G11 =>
    if 200 < v10 then (
      some ((-9), G11))
    else (
      bj1 (f_X0_heat 17 3 a2 G11) fun G13 =>
      bj1 (f_X0_middleWarmth 17 G13) fun x15 =>
      if v9 + ((mx (x15 - 500) 0) / 10) < 300 then (
        f_X7_safe_l54_12 a2 n12 (v9 + ((mx (x15 - 500) 0) / 10)) (v10 + 1) G13)
      else (
        bj1 (f_X0_middleWarmth 17 G13) fun x17 =>
        bj2 (f_X7_told v10 x17 G13) fun x20 G19 =>
        some (x20, G19)))
def f_X7_safe (a1 : Int32) (a2 : Int32) (G : G_) : Option (Int32 × G_) :=
  bj1 (f_X7_slabAt a1 G) fun o1 =>
  mo o1 (
    some ((-1), G)) (fun p3 =>
    chk (kd p3 == 5) <|
    bj1 (f_X7_isHeat a2) fun x5 =>
    if x5 = 0 then (
      some ((-1), G))
    else (
      if G.1 p3 0 = 0 then (
        bj2 (f_X7_found 1 G) fun x23 G22 =>
        some (x23, G22))
      else (
        bj1 (f_X0_begin 17 p3 (G.1 p3 1) (G.1 p3 3) G) fun G7 =>
        f_X7_safe_l54_12 a2 FU 0 1 G7)))
set_option maxHeartbeats 4000000 in
set_option maxRecDepth 100000 in
theorem c_X7_safe_l54_12 {K : CT} (a2 : Int32) (r : Int32) (G' : G_) (hc : Ok K cX7_safe RX7 (Cond.code yX7_safe cX7_safe 6 (some .int) :: TB) (some .int) 3 71 6)  : ∀ (n12 : Nat) (v9 : Int32) (v10 : Int32) (G11 : G_), f_X7_safe_l54_12 a2 n12 v9 v10 G11 = some (r, G') → Rets K (some (.int r)) G' → X K 54 [(0, .ref (kad K 0)), (2, .int a2), (4, .int v9), (5, .int v10)] [] G11 := by
  intro n12
  induction n12 with
  | zero =>
    intro v9 v10 G11 hf ho
    cases hf
  | succ n12 ih =>
    intro v9 v10 G11 hf ho
    unfold f_X7_safe_l54_12 at hf
    refine x_iload hc 3 dX7_safe_54 rfl ?_
    refine x_sipush (v := 200) hc rfl dX7_safe_56 ?_
    refine x_icmp_gt (tgt := 122) hc dX7_safe_59 rfl (fun c_59 => ?_) (fun c_59 => ?_)
    · replace hf := if_p hf c_59
      refine x_bipush (v := (-9)) hc rfl dX7_safe_122 ?_
      cases hf
      exact x_iret hc rfl ho dX7_safe_124
    · replace hf := if_n hf c_59
      refine x_aload_n hc 0 dX7_safe_62 rfl rfl ?_
      refine x_getR (T := TX7) (p0 := 0) hc in_X7 rfl (by decide) (rfl : kd 0 = 7) 6 (by decide) tw_246 rfl rfl dX7_safe_63 ?_
      refine x_iconst (v := 3) hc rfl dX7_safe_66 ?_
      refine x_iload_n hc 1 dX7_safe_67 rfl rfl ?_
      obtain ⟨G13, r14, hf⟩ := bj1_ok hf
      refine x_callVv (As := [.int 3, .int a2]) (p0 := 17) (T := TX0) hc (c_X0_heat (kl K) (kV K) 17 3 a2 G11 G13 r14) mw_X0_heat tw_557 (sh_X7_trial (rfl : kd 0 = 7)) (by decide) rfl rfl (Nat.le_of_ble_eq_true rfl) ⟨Nat.le_of_ble_eq_true rfl, Nat.le_of_ble_eq_true rfl⟩ dX7_safe_68 rfl ?_
      refine x_iload hc 2 dX7_safe_71 rfl ?_
      refine x_aload_n hc 0 dX7_safe_73 rfl rfl ?_
      refine x_getR (T := TX7) (p0 := 0) hc in_X7 rfl (by decide) (rfl : kd 0 = 7) 6 (by decide) tw_246 rfl rfl dX7_safe_74 ?_
      obtain ⟨x15, r16, hf⟩ := bj1_ok hf
      refine x_callVr (As := []) (p0 := 17) (v := (.int x15)) (T := TX0) hc (c_X0_middleWarmth (kl K) (kV K) 17 G13 x15 r16) mw_X0_middleWarmth tw_549 (sh_X7_trial (rfl : kd 0 = 7)) (by decide) rfl rfl (Nat.le_of_ble_eq_true rfl) ⟨Nat.le_of_ble_eq_true rfl, Nat.le_of_ble_eq_true rfl⟩ dX7_safe_77 rfl ?_
      refine x_sipush (v := 500) hc rfl dX7_safe_80 ?_
      refine x_isub hc dX7_safe_83 ?_
      refine x_iconst (v := 0) hc rfl dX7_safe_84 ?_
      refine x_mmax hc tw_819 tw_394 tw_36 tw_395 (Nat.le_of_ble_eq_true rfl) (Nat.le_of_ble_eq_true rfl) dX7_safe_85 ?_
      refine x_bipush (v := 10) hc rfl dX7_safe_88 ?_
      refine x_idiv hc (by decide) dX7_safe_90 ?_
      refine x_iadd hc dX7_safe_91 ?_
      refine x_istore (L' := [(0, .ref (kad K 0)), (2, .int a2), (4, .int (v9 + ((mx (x15 - 500) 0) / 10))), (5, .int v10)]) hc [1, 2, 0, 3] dX7_safe_92 (by decide) rfl ?_
      refine x_iload hc 2 dX7_safe_94 rfl ?_
      refine x_sipush (v := 300) hc rfl dX7_safe_96 ?_
      refine x_icmp_lt (tgt := 116) hc dX7_safe_99 rfl (fun c_99 => ?_) (fun c_99 => ?_)
      · replace hf := if_p hf c_99
        refine x_iinc (v := v10 + 1) (L' := [(0, .ref (kad K 0)), (2, .int a2), (4, .int (v9 + ((mx (x15 - 500) 0) / 10))), (5, .int (v10 + 1))]) hc 3 [1, 2, 3, 0] dX7_safe_116 rfl rfl (by decide) rfl ?_
        refine x_goto (tgt := 54) hc dX7_safe_119 rfl ?_
        exact x_sub [0, 1, 2, 3] (ih _ _ _ hf ho) rfl
      · replace hf := if_n hf c_99
        refine x_aload_n hc 0 dX7_safe_102 rfl rfl ?_
        refine x_iload hc 3 dX7_safe_103 rfl ?_
        refine x_aload_n hc 0 dX7_safe_105 rfl rfl ?_
        refine x_getR (T := TX7) (p0 := 0) hc in_X7 rfl (by decide) (rfl : kd 0 = 7) 6 (by decide) tw_246 rfl rfl dX7_safe_106 ?_
        obtain ⟨x17, r18, hf⟩ := bj1_ok hf
        refine x_callVr (As := []) (p0 := 17) (v := (.int x17)) (T := TX0) hc (c_X0_middleWarmth (kl K) (kV K) 17 G13 x17 r18) mw_X0_middleWarmth tw_549 (sh_X7_trial (rfl : kd 0 = 7)) (by decide) rfl rfl (Nat.le_of_ble_eq_true rfl) ⟨Nat.le_of_ble_eq_true rfl, Nat.le_of_ble_eq_true rfl⟩ dX7_safe_109 rfl ?_
        obtain ⟨x20, G19, r21, hf⟩ := bj2_ok hf
        refine x_callVr (As := [.int v10, .int x17]) (p0 := 0) (v := (.int x20)) (T := TX7) hc (c_X7_told (kl K) (kV K) v10 x17 G13 x20 G19 r21) mw_X7_told tw_457 (rfl : kd 0 = 7) (by decide) rfl rfl (Nat.le_of_ble_eq_true rfl) ⟨Nat.le_of_ble_eq_true rfl, Nat.le_of_ble_eq_true rfl⟩ dX7_safe_112 rfl ?_
        cases hf
        exact x_iret hc rfl ho dX7_safe_115
set_option maxHeartbeats 4000000 in
set_option maxRecDepth 100000 in
theorem c_X7_safe (l : Launch) (V : VT) (a1 : Int32) (a2 : Int32) (G : G_) (r : Int32) (G' : G_) (hf : f_X7_safe a1 a2 G = some (r, G')) : MC l V yX7_safe cX7_safe 6 (some .int) 3 71 [.ref (V.2.2.1 0), .int a1, .int a2] G (some (.int r)) G' := by
  refine mc_of (by decide) (Nat.le_of_ble_eq_true rfl) (fun K hV ho hc hkl => ?_)
  subst hV
  replace hc : Ok K cX7_safe RX7 (Cond.code yX7_safe cX7_safe 6 (some .int) :: TB) (some .int) 3 71 6 := hc
  replace ho : Rets K (some (.int r)) G' := ho
  show X K 0 [(0, .ref (kad K 0)), (1, .int a1), (2, .int a2)] [] G
  unfold f_X7_safe at hf
  refine x_aload_n hc 0 dX7_safe_0 rfl rfl ?_
  refine x_iload_n hc 1 dX7_safe_1 rfl rfl ?_
  obtain ⟨o1, r2, hf⟩ := bj1_ok hf
  refine x_callVr (As := [.int a1]) (p0 := 0) (v := (rfo K o1)) (T := TX7) hc (c_X7_slabAt (kl K) (kV K) a1 G o1 r2) mw_X7_slabAt tw_382 (rfl : kd 0 = 7) (by decide) rfl rfl (Nat.le_of_ble_eq_true rfl) ⟨Nat.le_of_ble_eq_true rfl, Nat.le_of_ble_eq_true rfl⟩ dX7_safe_2 rfl ?_
  refine x_astore_nO (L' := [(0, .ref (kad K 0)), (2, .int a2), (3, rfo K o1)]) hc [1, 3, 0] dX7_safe_5 rfl (by decide) rfl ?_
  refine x_aload_nO hc 2 dX7_safe_6 rfl rfl ?_
  cases o1 with
  | none =>
    replace hf := mo_n hf
    show X K 7 [(0, .ref (kad K 0)), (2, .int a2), (3, .null)] [.null] G
    refine x_ifnullN (tgt := 17) hc dX7_safe_7 rfl ?_
    refine x_iconst (v := (-1)) hc rfl dX7_safe_17 ?_
    cases hf
    exact x_iret hc rfl ho dX7_safe_18
  | some p3 =>
    replace hf := mo_s hf
    obtain ⟨k4, hf⟩ := chk_ok hf
    show X K 7 [(0, .ref (kad K 0)), (2, .int a2), (3, .ref (kad K p3))] [.ref (kad K p3)] G
    refine x_ifnullR hc dX7_safe_7 ?_
    refine x_iload_n hc 1 dX7_safe_10 rfl rfl ?_
    obtain ⟨x5, r6, hf⟩ := bj1_ok hf
    refine x_callSr (As := [.int a2]) (v := (.int x5)) hc (c_X7_isHeat (kl K) (kV K) a2 G x5 r6) mw_X7_isHeat tw_816 rfl (Nat.le_of_ble_eq_true rfl) ⟨Nat.le_of_ble_eq_true rfl, Nat.le_of_ble_eq_true rfl⟩ dX7_safe_11 rfl ?_
    refine x_if_ne (tgt := 19) hc dX7_safe_14 rfl (fun c_14 => ?_) (fun c_14 => ?_)
    · replace hf := if_n hf c_14
      refine x_aload_n hc 2 dX7_safe_19 rfl rfl ?_
      refine x_getI (T := TX5) (p0 := p3) hc in_X5 rfl (by decide) (kdb k4) 0 (by decide) tw_169 rfl rfl dX7_safe_20 ?_
      refine x_if_ne (tgt := 32) hc dX7_safe_23 rfl (fun c_23 => ?_) (fun c_23 => ?_)
      · replace hf := if_n hf c_23
        refine x_aload_n hc 0 dX7_safe_32 rfl rfl ?_
        refine x_getR (T := TX7) (p0 := 0) hc in_X7 rfl (by decide) (rfl : kd 0 = 7) 6 (by decide) tw_246 rfl rfl dX7_safe_33 ?_
        refine x_aload_n hc 2 dX7_safe_36 rfl rfl ?_
        refine x_aload_n hc 2 dX7_safe_37 rfl rfl ?_
        refine x_getI (T := TX5) (p0 := p3) hc in_X5 rfl (by decide) (kdb k4) 1 (by decide) tw_173 rfl rfl dX7_safe_38 ?_
        refine x_aload_n hc 2 dX7_safe_41 rfl rfl ?_
        refine x_getI (T := TX5) (p0 := p3) hc in_X5 rfl (by decide) (kdb k4) 3 (by decide) tw_180 rfl rfl dX7_safe_42 ?_
        obtain ⟨G7, r8, hf⟩ := bj1_ok hf
        refine x_callVv (As := [.ref (kad K p3), .int (G.1 p3 1), .int (G.1 p3 3)]) (p0 := 17) (T := TX0) hc (c_X0_begin (kl K) (kV K) 17 p3 (G.1 p3 1) (G.1 p3 3) G G7 r8) mw_X0_begin tw_386 (sh_X7_trial (rfl : kd 0 = 7)) (by decide) rfl rfl (Nat.le_of_ble_eq_true rfl) ⟨Nat.le_of_ble_eq_true rfl, Nat.le_of_ble_eq_true rfl⟩ dX7_safe_45 rfl ?_
        refine x_iconst (v := 0) hc rfl dX7_safe_48 ?_
        refine x_istore (L' := [(0, .ref (kad K 0)), (2, .int a2), (4, .int 0)]) hc [1, 2, 0] dX7_safe_49 (by decide) rfl ?_
        refine x_iconst (v := 1) hc rfl dX7_safe_51 ?_
        refine x_istore (L' := [(0, .ref (kad K 0)), (2, .int a2), (4, .int 0), (5, .int 1)]) hc [1, 2, 3, 0] dX7_safe_52 (by decide) rfl ?_
        exact x_sub [0, 1, 2, 3] (c_X7_safe_l54_12 a2 r G' hc  FU 0 1 G7 hf ho) rfl
      · replace hf := if_p hf c_23
        refine x_aload_n hc 0 dX7_safe_26 rfl rfl ?_
        refine x_iconst (v := 1) hc rfl dX7_safe_27 ?_
        obtain ⟨x23, G22, r24, hf⟩ := bj2_ok hf
        refine x_callVr (As := [.int 1]) (p0 := 0) (v := (.int x23)) (T := TX7) hc (c_X7_found (kl K) (kV K) 1 G x23 G22 r24) mw_X7_found tw_314 (rfl : kd 0 = 7) (by decide) rfl rfl (Nat.le_of_ble_eq_true rfl) ⟨Nat.le_of_ble_eq_true rfl, Nat.le_of_ble_eq_true rfl⟩ dX7_safe_28 rfl ?_
        cases hf
        exact x_iret hc rfl ho dX7_safe_31
    · replace hf := if_p hf c_14
      refine x_iconst (v := (-1)) hc rfl dX7_safe_17 ?_
      cases hf
      exact x_iret hc rfl ho dX7_safe_18
def f_X7_count (a1 : Int32) (G : G_) : Option Int32 :=
  if a1 = 0 then (
    bj1 (f_X7_slabsThere G) fun x1 =>
    some x1)
  else if a1 = 1 then (
    bj1 (f_X7_plansThere G) fun x3 =>
    some x3)
  else if a1 = 2 then (
    if G.1 5 7 = 0 then (
      some 0)
    else (
      some (G.1 5 12)))
  else if a1 = 3 then (
    bj1 (f_X7_skinsOf 1 G) fun x5 =>
    some x5)
  else if a1 = 4 then (
    bj1 (f_X7_skinsOf 3 G) fun x7 =>
    some x7)
  else if a1 = 5 then (
    bj1 (f_X7_dishesKept G) fun x9 =>
    some x9)
  else if a1 = 6 then (
    bj1 (f_X7_rowsThere G) fun x11 =>
    some x11)
  else if a1 = 7 then (
    bj1 (f_X7_textsThere G) fun x13 =>
    some x13)
  else (
    some (-1))
set_option maxHeartbeats 4000000 in
set_option maxRecDepth 100000 in
theorem c_X7_count (l : Launch) (V : VT) (a1 : Int32) (G : G_) (r : Int32) (hf : f_X7_count a1 G = some r) : MC l V yX7_count cX7_count 2 (some .int) 3 68 [.ref (V.2.2.1 0), .int a1] G (some (.int r)) G := by
  refine mc_of (by decide) (Nat.le_of_ble_eq_true rfl) (fun K hV ho hc hkl => ?_)
  subst hV
  replace hc : Ok K cX7_count RX7 (Cond.code yX7_count cX7_count 2 (some .int) :: TB) (some .int) 3 68 2 := hc
  replace ho : Rets K (some (.int r)) G := ho
  show X K 0 [(0, .ref (kad K 0)), (1, .int a1)] [] G
  unfold f_X7_count at hf
  refine x_iload_n hc 1 dX7_count_0 rfl rfl ?_
  by_cases s_1_0 : a1 = 0
  · replace hf := if_p hf s_1_0
    refine x_tsIn (tgt := 48) hc dX7_count_1 0 s_1_0 (by decide) (by decide) rfl rfl ?_
    refine x_aload_n hc 0 dX7_count_48 rfl rfl ?_
    obtain ⟨x1, r2, hf⟩ := bj1_ok hf
    refine x_callVr (As := []) (p0 := 0) (v := (.int x1)) (T := TX7) hc (c_X7_slabsThere (kl K) (kV K) G x1 r2) mw_X7_slabsThere tw_620 (rfl : kd 0 = 7) (by decide) rfl rfl (Nat.le_of_ble_eq_true rfl) ⟨Nat.le_of_ble_eq_true rfl, Nat.le_of_ble_eq_true rfl⟩ dX7_count_49 rfl ?_
    cases hf
    exact x_iret hc rfl ho dX7_count_52
  replace hf := if_n hf s_1_0
  by_cases s_1_1 : a1 = 1
  · replace hf := if_p hf s_1_1
    refine x_tsIn (tgt := 53) hc dX7_count_1 1 s_1_1 (by decide) (by decide) rfl rfl ?_
    refine x_aload_n hc 0 dX7_count_53 rfl rfl ?_
    obtain ⟨x3, r4, hf⟩ := bj1_ok hf
    refine x_callVr (As := []) (p0 := 0) (v := (.int x3)) (T := TX7) hc (c_X7_plansThere (kl K) (kV K) G x3 r4) mw_X7_plansThere tw_624 (rfl : kd 0 = 7) (by decide) rfl rfl (Nat.le_of_ble_eq_true rfl) ⟨Nat.le_of_ble_eq_true rfl, Nat.le_of_ble_eq_true rfl⟩ dX7_count_54 rfl ?_
    cases hf
    exact x_iret hc rfl ho dX7_count_57
  replace hf := if_n hf s_1_1
  by_cases s_1_2 : a1 = 2
  · replace hf := if_p hf s_1_2
    refine x_tsIn (tgt := 58) hc dX7_count_1 2 s_1_2 (by decide) (by decide) rfl rfl ?_
    refine x_aload_n hc 0 dX7_count_58 rfl rfl ?_
    refine x_getR (T := TX7) (p0 := 0) hc in_X7 rfl (by decide) (rfl : kd 0 = 7) 4 (by decide) tw_244 rfl rfl dX7_count_59 ?_
    refine x_getI (T := TX0) (p0 := 5) hc in_X0 rfl (by decide) (sh_X7_dish (rfl : kd 0 = 7)) 7 (by decide) tw_101 rfl rfl dX7_count_62 ?_
    refine x_if_eq (tgt := 78) hc dX7_count_65 rfl (fun c_65 => ?_) (fun c_65 => ?_)
    · replace hf := if_p hf c_65
      refine x_iconst (v := 0) hc rfl dX7_count_78 ?_
      cases hf
      exact x_iret hc rfl ho dX7_count_79
    · replace hf := if_n hf c_65
      refine x_aload_n hc 0 dX7_count_68 rfl rfl ?_
      refine x_getR (T := TX7) (p0 := 0) hc in_X7 rfl (by decide) (rfl : kd 0 = 7) 4 (by decide) tw_244 rfl rfl dX7_count_69 ?_
      refine x_getI (T := TX0) (p0 := 5) hc in_X0 rfl (by decide) (sh_X7_dish (rfl : kd 0 = 7)) 12 (by decide) tw_108 rfl rfl dX7_count_72 ?_
      refine x_goto (tgt := 79) hc dX7_count_75 rfl ?_
      cases hf
      exact x_iret hc rfl ho dX7_count_79
  replace hf := if_n hf s_1_2
  by_cases s_1_3 : a1 = 3
  · replace hf := if_p hf s_1_3
    refine x_tsIn (tgt := 80) hc dX7_count_1 3 s_1_3 (by decide) (by decide) rfl rfl ?_
    refine x_aload_n hc 0 dX7_count_80 rfl rfl ?_
    refine x_iconst (v := 1) hc rfl dX7_count_81 ?_
    obtain ⟨x5, r6, hf⟩ := bj1_ok hf
    refine x_callVr (As := [.int 1]) (p0 := 0) (v := (.int x5)) (T := TX7) hc (c_X7_skinsOf (kl K) (kV K) 1 G x5 r6) mw_X7_skinsOf tw_628 (rfl : kd 0 = 7) (by decide) rfl rfl (Nat.le_of_ble_eq_true rfl) ⟨Nat.le_of_ble_eq_true rfl, Nat.le_of_ble_eq_true rfl⟩ dX7_count_82 rfl ?_
    cases hf
    exact x_iret hc rfl ho dX7_count_85
  replace hf := if_n hf s_1_3
  by_cases s_1_4 : a1 = 4
  · replace hf := if_p hf s_1_4
    refine x_tsIn (tgt := 86) hc dX7_count_1 4 s_1_4 (by decide) (by decide) rfl rfl ?_
    refine x_aload_n hc 0 dX7_count_86 rfl rfl ?_
    refine x_iconst (v := 3) hc rfl dX7_count_87 ?_
    obtain ⟨x7, r8, hf⟩ := bj1_ok hf
    refine x_callVr (As := [.int 3]) (p0 := 0) (v := (.int x7)) (T := TX7) hc (c_X7_skinsOf (kl K) (kV K) 3 G x7 r8) mw_X7_skinsOf tw_628 (rfl : kd 0 = 7) (by decide) rfl rfl (Nat.le_of_ble_eq_true rfl) ⟨Nat.le_of_ble_eq_true rfl, Nat.le_of_ble_eq_true rfl⟩ dX7_count_88 rfl ?_
    cases hf
    exact x_iret hc rfl ho dX7_count_91
  replace hf := if_n hf s_1_4
  by_cases s_1_5 : a1 = 5
  · replace hf := if_p hf s_1_5
    refine x_tsIn (tgt := 92) hc dX7_count_1 5 s_1_5 (by decide) (by decide) rfl rfl ?_
    refine x_aload_n hc 0 dX7_count_92 rfl rfl ?_
    obtain ⟨x9, r10, hf⟩ := bj1_ok hf
    refine x_callVr (As := []) (p0 := 0) (v := (.int x9)) (T := TX7) hc (c_X7_dishesKept (kl K) (kV K) G x9 r10) mw_X7_dishesKept tw_638 (rfl : kd 0 = 7) (by decide) rfl rfl (Nat.le_of_ble_eq_true rfl) ⟨Nat.le_of_ble_eq_true rfl, Nat.le_of_ble_eq_true rfl⟩ dX7_count_93 rfl ?_
    cases hf
    exact x_iret hc rfl ho dX7_count_96
  replace hf := if_n hf s_1_5
  by_cases s_1_6 : a1 = 6
  · replace hf := if_p hf s_1_6
    refine x_tsIn (tgt := 97) hc dX7_count_1 6 s_1_6 (by decide) (by decide) rfl rfl ?_
    refine x_aload_n hc 0 dX7_count_97 rfl rfl ?_
    obtain ⟨x11, r12, hf⟩ := bj1_ok hf
    refine x_callVr (As := []) (p0 := 0) (v := (.int x11)) (T := TX7) hc (c_X7_rowsThere (kl K) (kV K) G x11 r12) mw_X7_rowsThere tw_642 (rfl : kd 0 = 7) (by decide) rfl rfl (Nat.le_of_ble_eq_true rfl) ⟨Nat.le_of_ble_eq_true rfl, Nat.le_of_ble_eq_true rfl⟩ dX7_count_98 rfl ?_
    cases hf
    exact x_iret hc rfl ho dX7_count_101
  replace hf := if_n hf s_1_6
  by_cases s_1_7 : a1 = 7
  · replace hf := if_p hf s_1_7
    refine x_tsIn (tgt := 102) hc dX7_count_1 7 s_1_7 (by decide) (by decide) rfl rfl ?_
    refine x_aload_n hc 0 dX7_count_102 rfl rfl ?_
    obtain ⟨x13, r14, hf⟩ := bj1_ok hf
    refine x_callVr (As := []) (p0 := 0) (v := (.int x13)) (T := TX7) hc (c_X7_textsThere (kl K) (kV K) G x13 r14) mw_X7_textsThere tw_646 (rfl : kd 0 = 7) (by decide) rfl rfl (Nat.le_of_ble_eq_true rfl) ⟨Nat.le_of_ble_eq_true rfl, Nat.le_of_ble_eq_true rfl⟩ dX7_count_103 rfl ?_
    cases hf
    exact x_iret hc rfl ho dX7_count_106
  replace hf := if_n hf s_1_7
  refine x_tsDef (tgt := 107) hc dX7_count_1 [0, 1, 2, 3, 4, 5, 6, 7] 8 rfl (by decide +kernel) (List.forall_mem_cons.mpr ⟨s_1_0, List.forall_mem_cons.mpr ⟨s_1_1, List.forall_mem_cons.mpr ⟨s_1_2, List.forall_mem_cons.mpr ⟨s_1_3, List.forall_mem_cons.mpr ⟨s_1_4, List.forall_mem_cons.mpr ⟨s_1_5, List.forall_mem_cons.mpr ⟨s_1_6, List.forall_mem_cons.mpr ⟨s_1_7, fun _ h => absurd h List.not_mem_nil⟩⟩⟩⟩⟩⟩⟩⟩) rfl ?_
  refine x_iconst (v := (-1)) hc rfl dX7_count_107 ?_
  cases hf
  exact x_iret hc rfl ho dX7_count_108
def f_X7_go (a1 : Int32) (G : G_) : Option (Int32 × G_) :=
  bj1 (f_X7_within a1 0 200) fun x1 =>
  if x1 = 0 then (
    some ((-1), G))
  else (
    if G.1 5 7 = 0 then (
      some ((-4), G))
    else (
      if (G.1 5 12) + a1 ≤ 300 then (
        bj1 (f_X0_goOn 5 a1 G) fun G3 =>
        some (G3.1 5 12, G3))
      else (
        some ((-6), G))))
set_option maxHeartbeats 4000000 in
set_option maxRecDepth 100000 in
theorem c_X7_go (l : Launch) (V : VT) (a1 : Int32) (G : G_) (r : Int32) (G' : G_) (hf : f_X7_go a1 G = some (r, G')) : MC l V yX7_go cX7_go 2 (some .int) 4 93 [.ref (V.2.2.1 0), .int a1] G (some (.int r)) G' := by
  refine mc_of (by decide) (Nat.le_of_ble_eq_true rfl) (fun K hV ho hc hkl => ?_)
  subst hV
  replace hc : Ok K cX7_go RX7 (Cond.code yX7_go cX7_go 2 (some .int) :: TB) (some .int) 4 93 2 := hc
  replace ho : Rets K (some (.int r)) G' := ho
  show X K 0 [(0, .ref (kad K 0)), (1, .int a1)] [] G
  unfold f_X7_go at hf
  refine x_iload_n hc 1 dX7_go_0 rfl rfl ?_
  refine x_iconst (v := 0) hc rfl dX7_go_1 ?_
  refine x_sipush (v := 200) hc rfl dX7_go_2 ?_
  obtain ⟨x1, r2, hf⟩ := bj1_ok hf
  refine x_callSr (As := [.int a1, .int 0, .int 200]) (v := (.int x1)) hc (c_X7_within (kl K) (kV K) a1 0 200 G x1 r2) mw_X7_within tw_401 rfl (Nat.le_of_ble_eq_true rfl) ⟨Nat.le_of_ble_eq_true rfl, Nat.le_of_ble_eq_true rfl⟩ dX7_go_5 rfl ?_
  refine x_if_ne (tgt := 13) hc dX7_go_8 rfl (fun c_8 => ?_) (fun c_8 => ?_)
  · replace hf := if_n hf c_8
    refine x_aload_n hc 0 dX7_go_13 rfl rfl ?_
    refine x_getR (T := TX7) (p0 := 0) hc in_X7 rfl (by decide) (rfl : kd 0 = 7) 4 (by decide) tw_244 rfl rfl dX7_go_14 ?_
    refine x_getI (T := TX0) (p0 := 5) hc in_X0 rfl (by decide) (sh_X7_dish (rfl : kd 0 = 7)) 7 (by decide) tw_101 rfl rfl dX7_go_17 ?_
    refine x_if_ne (tgt := 26) hc dX7_go_20 rfl (fun c_20 => ?_) (fun c_20 => ?_)
    · replace hf := if_n hf c_20
      refine x_aload_n hc 0 dX7_go_26 rfl rfl ?_
      refine x_getR (T := TX7) (p0 := 0) hc in_X7 rfl (by decide) (rfl : kd 0 = 7) 4 (by decide) tw_244 rfl rfl dX7_go_27 ?_
      refine x_getI (T := TX0) (p0 := 5) hc in_X0 rfl (by decide) (sh_X7_dish (rfl : kd 0 = 7)) 12 (by decide) tw_108 rfl rfl dX7_go_30 ?_
      refine x_iload_n hc 1 dX7_go_33 rfl rfl ?_
      refine x_iadd hc dX7_go_34 ?_
      refine x_sipush (v := 300) hc rfl dX7_go_35 ?_
      refine x_icmp_le (tgt := 44) hc dX7_go_38 rfl (fun c_38 => ?_) (fun c_38 => ?_)
      · replace hf := if_p hf c_38
        refine x_aload_n hc 0 dX7_go_44 rfl rfl ?_
        refine x_getR (T := TX7) (p0 := 0) hc in_X7 rfl (by decide) (rfl : kd 0 = 7) 4 (by decide) tw_244 rfl rfl dX7_go_45 ?_
        refine x_iload_n hc 1 dX7_go_48 rfl rfl ?_
        obtain ⟨G3, r4, hf⟩ := bj1_ok hf
        refine x_callVv (As := [.int a1]) (p0 := 5) (T := TX0) hc (c_X0_goOn (kl K) (kV K) 5 a1 G G3 r4) mw_X0_goOn tw_402 (sh_X7_dish (rfl : kd 0 = 7)) (by decide) rfl rfl (Nat.le_of_ble_eq_true rfl) ⟨Nat.le_of_ble_eq_true rfl, Nat.le_of_ble_eq_true rfl⟩ dX7_go_49 rfl ?_
        refine x_aload_n hc 0 dX7_go_52 rfl rfl ?_
        refine x_getR (T := TX7) (p0 := 0) hc in_X7 rfl (by decide) (rfl : kd 0 = 7) 4 (by decide) tw_244 rfl rfl dX7_go_53 ?_
        refine x_getI (T := TX0) (p0 := 5) hc in_X0 rfl (by decide) (sh_X7_dish (rfl : kd 0 = 7)) 12 (by decide) tw_108 rfl rfl dX7_go_56 ?_
        cases hf
        exact x_iret hc rfl ho dX7_go_59
      · replace hf := if_n hf c_38
        refine x_bipush (v := (-6)) hc rfl dX7_go_41 ?_
        cases hf
        exact x_iret hc rfl ho dX7_go_43
    · replace hf := if_p hf c_20
      refine x_bipush (v := (-4)) hc rfl dX7_go_23 ?_
      cases hf
      exact x_iret hc rfl ho dX7_go_25
  · replace hf := if_p hf c_8
    refine x_iconst (v := (-1)) hc rfl dX7_go_11 ?_
    cases hf
    exact x_iret hc rfl ho dX7_go_12
def f_X7_slice_l38_9 (p3 : Nat) : Nat → Int32 → G_ → Option (G_)
  | 0, _, _ => none
  | n9 + 1, v7, G8 =>
    if G8.1 5 8 ≤ v7 then (
      some (G8))
    else (
      bj1 (f_X0_colour 5 v7 G8) fun x10 =>
      bj1 (f_X4_set p3 v7 x10 G8) fun G12 =>
      f_X7_slice_l38_9 p3 n9 (v7 + 1) G12)
def f_X7_slice (a1 : Int32) (G : G_) : Option (Int32 × G_) :=
  bj1 (f_X7_rowAt a1 G) fun o1 =>
  mo o1 (
    some ((-1), G)) (fun p3 =>
    chk (kd p3 == 4) <|
    if G.1 5 7 = 0 then (
      some ((-4), G))
    else (
      bj1 (f_X4_begin p3 (G.1 5 8) G) fun G5 =>
      bj1 (f_X7_slice_l38_9 p3 FU 0 G5) fun G14 =>
      bj1 (f_X0_pink 5 G14) fun x15 =>
      some (x15, G14)))
set_option maxHeartbeats 4000000 in
set_option maxRecDepth 100000 in
theorem c_X7_slice_l38_9 {K : CT} (p3 : Nat) (hc : Ok K cX7_slice RX7 (Cond.code yX7_slice cX7_slice 4 (some .int) :: TB) (some .int) 4 86 4) (k4 : (kd p3 == 4) = true) : ∀ (n9 : Nat) (v7 : Int32) (G8 : G_) (G14 : G_), f_X7_slice_l38_9 p3 n9 v7 G8 = some (G14) → X K 68 [(0, .ref (kad K 0))] [] G14 → X K 38 [(0, .ref (kad K 0)), (2, .ref (kad K p3)), (3, .int v7)] [] G8 := by
  intro n9
  induction n9 with
  | zero =>
    intro v7 G8 G14 hf hk
    cases hf
  | succ n9 ih =>
    intro v7 G8 G14 hf hk
    unfold f_X7_slice_l38_9 at hf
    refine x_iload_n hc 2 dX7_slice_38 rfl rfl ?_
    refine x_aload_n hc 0 dX7_slice_39 rfl rfl ?_
    refine x_getR (T := TX7) (p0 := 0) hc in_X7 rfl (by decide) (rfl : kd 0 = 7) 4 (by decide) tw_244 rfl rfl dX7_slice_40 ?_
    refine x_getI (T := TX0) (p0 := 5) hc in_X0 rfl (by decide) (sh_X7_dish (rfl : kd 0 = 7)) 8 (by decide) tw_103 rfl rfl dX7_slice_43 ?_
    refine x_icmp_ge (tgt := 68) hc dX7_slice_46 rfl (fun c_46 => ?_) (fun c_46 => ?_)
    · replace hf := if_p hf c_46
      cases hf
      exact x_sub [0] hk rfl
    · replace hf := if_n hf c_46
      refine x_aload_n hc 1 dX7_slice_49 rfl rfl ?_
      refine x_iload_n hc 2 dX7_slice_50 rfl rfl ?_
      refine x_aload_n hc 0 dX7_slice_51 rfl rfl ?_
      refine x_getR (T := TX7) (p0 := 0) hc in_X7 rfl (by decide) (rfl : kd 0 = 7) 4 (by decide) tw_244 rfl rfl dX7_slice_52 ?_
      refine x_iload_n hc 2 dX7_slice_55 rfl rfl ?_
      obtain ⟨x10, r11, hf⟩ := bj1_ok hf
      refine x_callVr (As := [.int v7]) (p0 := 5) (v := (.int x10)) (T := TX0) hc (c_X0_colour (kl K) (kV K) 5 v7 G8 x10 r11) mw_X0_colour tw_511 (sh_X7_dish (rfl : kd 0 = 7)) (by decide) rfl rfl (Nat.le_of_ble_eq_true rfl) ⟨Nat.le_of_ble_eq_true rfl, Nat.le_of_ble_eq_true rfl⟩ dX7_slice_56 rfl ?_
      obtain ⟨G12, r13, hf⟩ := bj1_ok hf
      refine x_callVv (As := [.int v7, .int x10]) (p0 := p3) (T := TX4) hc (c_X4_set (kl K) (kV K) p3 v7 x10 G8 G12 r13) mw_X4_set tw_515 (kdb k4) (by decide) rfl rfl (Nat.le_of_ble_eq_true rfl) ⟨Nat.le_of_ble_eq_true rfl, Nat.le_of_ble_eq_true rfl⟩ dX7_slice_59 rfl ?_
      refine x_iinc (v := v7 + 1) (L' := [(0, .ref (kad K 0)), (2, .ref (kad K p3)), (3, .int (v7 + 1))]) hc 2 [1, 2, 0] dX7_slice_62 rfl rfl (by decide) rfl ?_
      refine x_goto (tgt := 38) hc dX7_slice_65 rfl ?_
      exact x_sub [0, 1, 2] (ih _ _ _ hf hk) rfl
set_option maxHeartbeats 4000000 in
set_option maxRecDepth 100000 in
theorem c_X7_slice (l : Launch) (V : VT) (a1 : Int32) (G : G_) (r : Int32) (G' : G_) (hf : f_X7_slice a1 G = some (r, G')) : MC l V yX7_slice cX7_slice 4 (some .int) 4 86 [.ref (V.2.2.1 0), .int a1] G (some (.int r)) G' := by
  refine mc_of (by decide) (Nat.le_of_ble_eq_true rfl) (fun K hV ho hc hkl => ?_)
  subst hV
  replace hc : Ok K cX7_slice RX7 (Cond.code yX7_slice cX7_slice 4 (some .int) :: TB) (some .int) 4 86 4 := hc
  replace ho : Rets K (some (.int r)) G' := ho
  show X K 0 [(0, .ref (kad K 0)), (1, .int a1)] [] G
  unfold f_X7_slice at hf
  refine x_aload_n hc 0 dX7_slice_0 rfl rfl ?_
  refine x_iload_n hc 1 dX7_slice_1 rfl rfl ?_
  obtain ⟨o1, r2, hf⟩ := bj1_ok hf
  refine x_callVr (As := [.int a1]) (p0 := 0) (v := (rfo K o1)) (T := TX7) hc (c_X7_rowAt (kl K) (kV K) a1 G o1 r2) mw_X7_rowAt tw_501 (rfl : kd 0 = 7) (by decide) rfl rfl (Nat.le_of_ble_eq_true rfl) ⟨Nat.le_of_ble_eq_true rfl, Nat.le_of_ble_eq_true rfl⟩ dX7_slice_2 rfl ?_
  refine x_astore_nO (L' := [(0, .ref (kad K 0)), (2, rfo K o1)]) hc [1, 0] dX7_slice_5 rfl (by decide) rfl ?_
  refine x_aload_nO hc 1 dX7_slice_6 rfl rfl ?_
  cases o1 with
  | none =>
    replace hf := mo_n hf
    show X K 7 [(0, .ref (kad K 0)), (2, .null)] [.null] G
    refine x_ifnonnullN hc dX7_slice_7 ?_
    refine x_iconst (v := (-1)) hc rfl dX7_slice_10 ?_
    cases hf
    exact x_iret hc rfl ho dX7_slice_11
  | some p3 =>
    replace hf := mo_s hf
    obtain ⟨k4, hf⟩ := chk_ok hf
    show X K 7 [(0, .ref (kad K 0)), (2, .ref (kad K p3))] [.ref (kad K p3)] G
    refine x_ifnonnullR (tgt := 12) hc dX7_slice_7 rfl ?_
    refine x_aload_n hc 0 dX7_slice_12 rfl rfl ?_
    refine x_getR (T := TX7) (p0 := 0) hc in_X7 rfl (by decide) (rfl : kd 0 = 7) 4 (by decide) tw_244 rfl rfl dX7_slice_13 ?_
    refine x_getI (T := TX0) (p0 := 5) hc in_X0 rfl (by decide) (sh_X7_dish (rfl : kd 0 = 7)) 7 (by decide) tw_101 rfl rfl dX7_slice_16 ?_
    refine x_if_ne (tgt := 25) hc dX7_slice_19 rfl (fun c_19 => ?_) (fun c_19 => ?_)
    · replace hf := if_n hf c_19
      refine x_aload_n hc 1 dX7_slice_25 rfl rfl ?_
      refine x_aload_n hc 0 dX7_slice_26 rfl rfl ?_
      refine x_getR (T := TX7) (p0 := 0) hc in_X7 rfl (by decide) (rfl : kd 0 = 7) 4 (by decide) tw_244 rfl rfl dX7_slice_27 ?_
      refine x_getI (T := TX0) (p0 := 5) hc in_X0 rfl (by decide) (sh_X7_dish (rfl : kd 0 = 7)) 8 (by decide) tw_103 rfl rfl dX7_slice_30 ?_
      obtain ⟨G5, r6, hf⟩ := bj1_ok hf
      refine x_callVv (As := [.int (G.1 5 8)]) (p0 := p3) (T := TX4) hc (c_X4_begin (kl K) (kV K) p3 (G.1 5 8) G G5 r6) mw_X4_begin tw_505 (kdb k4) (by decide) rfl rfl (Nat.le_of_ble_eq_true rfl) ⟨Nat.le_of_ble_eq_true rfl, Nat.le_of_ble_eq_true rfl⟩ dX7_slice_33 rfl ?_
      refine x_iconst (v := 0) hc rfl dX7_slice_36 ?_
      refine x_istore_n (L' := [(0, .ref (kad K 0)), (2, .ref (kad K p3)), (3, .int 0)]) hc [1, 2, 0] dX7_slice_37 rfl (by decide) rfl ?_
      obtain ⟨G14, hl_38, hf⟩ := bj1_ok hf
      have he_68_n9 : X K 68 [(0, .ref (kad K 0))] [] G14 := by
        clear hl_38
        refine x_aload_n hc 0 dX7_slice_68 rfl rfl ?_
        refine x_getR (T := TX7) (p0 := 0) hc in_X7 rfl (by decide) (rfl : kd 0 = 7) 4 (by decide) tw_244 rfl rfl dX7_slice_69 ?_
        obtain ⟨x15, r16, hf⟩ := bj1_ok hf
        refine x_callVr (As := []) (p0 := 5) (v := (.int x15)) (T := TX0) hc (c_X0_pink (kl K) (kV K) 5 G14 x15 r16) mw_X0_pink tw_523 (sh_X7_dish (rfl : kd 0 = 7)) (by decide) rfl rfl (Nat.le_of_ble_eq_true rfl) ⟨Nat.le_of_ble_eq_true rfl, Nat.le_of_ble_eq_true rfl⟩ dX7_slice_72 rfl ?_
        cases hf
        exact x_iret hc rfl ho dX7_slice_75
      exact x_sub [0, 1, 2] (c_X7_slice_l38_9 p3 hc k4 FU 0 G5 G14 hl_38 he_68_n9) rfl
    · replace hf := if_p hf c_19
      refine x_bipush (v := (-4)) hc rfl dX7_slice_22 ?_
      cases hf
      exact x_iret hc rfl ho dX7_slice_24
def f_X7_cut (a1 : Int32) (G : G_) : Option (Int32 × G_) :=
  bj1 (f_X7_within a1 0 60) fun x1 =>
  if x1 = 0 then (
    some ((-1), G))
  else (
    if G.1 5 7 = 0 then (
      some ((-4), G))
    else (
      bj1 (f_X0_become 17 5 G) fun G3 =>
      bj1 (f_X0_restFor 17 a1 G3) fun G5 =>
      bj1 (f_X0_lossNow 5 G5) fun x7 =>
      bj1 (f_X0_lossNow 17 G5) fun x9 =>
      bj2 (f_X7_told x7 x9 G5) fun x12 G11 =>
      some (x12, G11)))
set_option maxHeartbeats 4000000 in
set_option maxRecDepth 100000 in
theorem c_X7_cut (l : Launch) (V : VT) (a1 : Int32) (G : G_) (r : Int32) (G' : G_) (hf : f_X7_cut a1 G = some (r, G')) : MC l V yX7_cut cX7_cut 2 (some .int) 4 93 [.ref (V.2.2.1 0), .int a1] G (some (.int r)) G' := by
  refine mc_of (by decide) (Nat.le_of_ble_eq_true rfl) (fun K hV ho hc hkl => ?_)
  subst hV
  replace hc : Ok K cX7_cut RX7 (Cond.code yX7_cut cX7_cut 2 (some .int) :: TB) (some .int) 4 93 2 := hc
  replace ho : Rets K (some (.int r)) G' := ho
  show X K 0 [(0, .ref (kad K 0)), (1, .int a1)] [] G
  unfold f_X7_cut at hf
  refine x_iload_n hc 1 dX7_cut_0 rfl rfl ?_
  refine x_iconst (v := 0) hc rfl dX7_cut_1 ?_
  refine x_bipush (v := 60) hc rfl dX7_cut_2 ?_
  obtain ⟨x1, r2, hf⟩ := bj1_ok hf
  refine x_callSr (As := [.int a1, .int 0, .int 60]) (v := (.int x1)) hc (c_X7_within (kl K) (kV K) a1 0 60 G x1 r2) mw_X7_within tw_401 rfl (Nat.le_of_ble_eq_true rfl) ⟨Nat.le_of_ble_eq_true rfl, Nat.le_of_ble_eq_true rfl⟩ dX7_cut_4 rfl ?_
  refine x_if_ne (tgt := 12) hc dX7_cut_7 rfl (fun c_7 => ?_) (fun c_7 => ?_)
  · replace hf := if_n hf c_7
    refine x_aload_n hc 0 dX7_cut_12 rfl rfl ?_
    refine x_getR (T := TX7) (p0 := 0) hc in_X7 rfl (by decide) (rfl : kd 0 = 7) 4 (by decide) tw_244 rfl rfl dX7_cut_13 ?_
    refine x_getI (T := TX0) (p0 := 5) hc in_X0 rfl (by decide) (sh_X7_dish (rfl : kd 0 = 7)) 7 (by decide) tw_101 rfl rfl dX7_cut_16 ?_
    refine x_if_ne (tgt := 25) hc dX7_cut_19 rfl (fun c_19 => ?_) (fun c_19 => ?_)
    · replace hf := if_n hf c_19
      refine x_aload_n hc 0 dX7_cut_25 rfl rfl ?_
      refine x_getR (T := TX7) (p0 := 0) hc in_X7 rfl (by decide) (rfl : kd 0 = 7) 6 (by decide) tw_246 rfl rfl dX7_cut_26 ?_
      refine x_aload_n hc 0 dX7_cut_29 rfl rfl ?_
      refine x_getR (T := TX7) (p0 := 0) hc in_X7 rfl (by decide) (rfl : kd 0 = 7) 4 (by decide) tw_244 rfl rfl dX7_cut_30 ?_
      obtain ⟨G3, r4, hf⟩ := bj1_ok hf
      refine x_callVv (As := [.ref (kad K 5)]) (p0 := 17) (T := TX0) hc (c_X0_become (kl K) (kV K) 17 5 G G3 r4) mw_X0_become tw_532 (sh_X7_trial (rfl : kd 0 = 7)) (by decide) rfl rfl (Nat.le_of_ble_eq_true rfl) ⟨Nat.le_of_ble_eq_true rfl, Nat.le_of_ble_eq_true rfl⟩ dX7_cut_33 rfl ?_
      refine x_aload_n hc 0 dX7_cut_36 rfl rfl ?_
      refine x_getR (T := TX7) (p0 := 0) hc in_X7 rfl (by decide) (rfl : kd 0 = 7) 6 (by decide) tw_246 rfl rfl dX7_cut_37 ?_
      refine x_iload_n hc 1 dX7_cut_40 rfl rfl ?_
      obtain ⟨G5, r6, hf⟩ := bj1_ok hf
      refine x_callVv (As := [.int a1]) (p0 := 17) (T := TX0) hc (c_X0_restFor (kl K) (kV K) 17 a1 G3 G5 r6) mw_X0_restFor tw_537 (sh_X7_trial (rfl : kd 0 = 7)) (by decide) rfl rfl (Nat.le_of_ble_eq_true rfl) ⟨Nat.le_of_ble_eq_true rfl, Nat.le_of_ble_eq_true rfl⟩ dX7_cut_41 rfl ?_
      refine x_aload_n hc 0 dX7_cut_44 rfl rfl ?_
      refine x_aload_n hc 0 dX7_cut_45 rfl rfl ?_
      refine x_getR (T := TX7) (p0 := 0) hc in_X7 rfl (by decide) (rfl : kd 0 = 7) 4 (by decide) tw_244 rfl rfl dX7_cut_46 ?_
      obtain ⟨x7, r8, hf⟩ := bj1_ok hf
      refine x_callVr (As := []) (p0 := 5) (v := (.int x7)) (T := TX0) hc (c_X0_lossNow (kl K) (kV K) 5 G5 x7 r8) mw_X0_lossNow tw_541 (sh_X7_dish (rfl : kd 0 = 7)) (by decide) rfl rfl (Nat.le_of_ble_eq_true rfl) ⟨Nat.le_of_ble_eq_true rfl, Nat.le_of_ble_eq_true rfl⟩ dX7_cut_49 rfl ?_
      refine x_aload_n hc 0 dX7_cut_52 rfl rfl ?_
      refine x_getR (T := TX7) (p0 := 0) hc in_X7 rfl (by decide) (rfl : kd 0 = 7) 6 (by decide) tw_246 rfl rfl dX7_cut_53 ?_
      obtain ⟨x9, r10, hf⟩ := bj1_ok hf
      refine x_callVr (As := []) (p0 := 17) (v := (.int x9)) (T := TX0) hc (c_X0_lossNow (kl K) (kV K) 17 G5 x9 r10) mw_X0_lossNow tw_541 (sh_X7_trial (rfl : kd 0 = 7)) (by decide) rfl rfl (Nat.le_of_ble_eq_true rfl) ⟨Nat.le_of_ble_eq_true rfl, Nat.le_of_ble_eq_true rfl⟩ dX7_cut_56 rfl ?_
      obtain ⟨x12, G11, r13, hf⟩ := bj2_ok hf
      refine x_callVr (As := [.int x7, .int x9]) (p0 := 0) (v := (.int x12)) (T := TX7) hc (c_X7_told (kl K) (kV K) x7 x9 G5 x12 G11 r13) mw_X7_told tw_457 (rfl : kd 0 = 7) (by decide) rfl rfl (Nat.le_of_ble_eq_true rfl) ⟨Nat.le_of_ble_eq_true rfl, Nat.le_of_ble_eq_true rfl⟩ dX7_cut_59 rfl ?_
      cases hf
      exact x_iret hc rfl ho dX7_cut_62
    · replace hf := if_p hf c_19
      refine x_bipush (v := (-4)) hc rfl dX7_cut_22 ?_
      cases hf
      exact x_iret hc rfl ho dX7_cut_24
  · replace hf := if_p hf c_7
    refine x_iconst (v := (-1)) hc rfl dX7_cut_10 ?_
    cases hf
    exact x_iret hc rfl ho dX7_cut_11
def f_X7_rise_l39_9 (x3 : Int32) : Nat → Int32 → Int32 → Int32 → G_ → Option (Int32 × Int32 × G_)
  | 0, _, _, _, _ => none
  | n9 + 1, v5, v6, v7, G8 =>
    if 60 < v7 then (
      some (v5, v6, G8))
    else (
      bj1 (f_X0_heat 17 4 0 G8) fun G10 =>
      bj1 (f_X0_middleWarmth 17 G10) fun x12 =>
      bj2 (
        if x12 ≤ v5 then (
          some (v5, v6))
        else (
          bj1 (f_X0_middleWarmth 17 G10) fun x15 =>
          some (x15, v7))) fun (x17 : Int32) (x18 : Int32) =>
      f_X7_rise_l39_9 x3 n9 x17 x18 (v7 + 1) G10)
def f_X7_rise  (G : G_) : Option (Int32 × G_) :=
  if G.1 5 7 = 0 then (
    some ((-4), G))
  else (
    bj1 (f_X0_become 17 5 G) fun G1 =>
    bj1 (f_X0_middleWarmth 17 G1) fun x3 =>
    bj3 (f_X7_rise_l39_9 x3 FU x3 0 1 G1) fun x19 x20 G21 =>
    bj2 (f_X7_told (x19 - x3) x20 G21) fun x23 G22 =>
    some (x23, G22))
set_option maxHeartbeats 4000000 in
set_option maxRecDepth 100000 in
theorem c_X7_rise_l39_9 {K : CT} (x3 : Int32) (hc : Ok K cX7_rise RX7 (Cond.code yX7_rise cX7_rise 5 (some .int) :: TB) (some .int) 4 86 5)  : ∀ (n9 : Nat) (v5 : Int32) (v6 : Int32) (v7 : Int32) (G8 : G_) (x19 : Int32) (x20 : Int32) (G21 : G_), f_X7_rise_l39_9 x3 n9 v5 v6 v7 G8 = some (x19, x20, G21) → X K 83 [(0, .ref (kad K 0)), (1, .int x3), (2, .int x19), (3, .int x20)] [] G21 → X K 39 [(0, .ref (kad K 0)), (1, .int x3), (2, .int v5), (3, .int v6), (4, .int v7)] [] G8 := by
  intro n9
  induction n9 with
  | zero =>
    intro v5 v6 v7 G8 x19 x20 G21 hf hk
    cases hf
  | succ n9 ih =>
    intro v5 v6 v7 G8 x19 x20 G21 hf hk
    unfold f_X7_rise_l39_9 at hf
    refine x_iload hc 4 dX7_rise_39 rfl ?_
    refine x_bipush (v := 60) hc rfl dX7_rise_41 ?_
    refine x_icmp_gt (tgt := 83) hc dX7_rise_43 rfl (fun c_43 => ?_) (fun c_43 => ?_)
    · replace hf := if_p hf c_43
      cases hf
      exact x_sub [0, 1, 2, 3] hk rfl
    · replace hf := if_n hf c_43
      refine x_aload_n hc 0 dX7_rise_46 rfl rfl ?_
      refine x_getR (T := TX7) (p0 := 0) hc in_X7 rfl (by decide) (rfl : kd 0 = 7) 6 (by decide) tw_246 rfl rfl dX7_rise_47 ?_
      refine x_iconst (v := 4) hc rfl dX7_rise_50 ?_
      refine x_iconst (v := 0) hc rfl dX7_rise_51 ?_
      obtain ⟨G10, r11, hf⟩ := bj1_ok hf
      refine x_callVv (As := [.int 4, .int 0]) (p0 := 17) (T := TX0) hc (c_X0_heat (kl K) (kV K) 17 4 0 G8 G10 r11) mw_X0_heat tw_557 (sh_X7_trial (rfl : kd 0 = 7)) (by decide) rfl rfl (Nat.le_of_ble_eq_true rfl) ⟨Nat.le_of_ble_eq_true rfl, Nat.le_of_ble_eq_true rfl⟩ dX7_rise_52 rfl ?_
      refine x_aload_n hc 0 dX7_rise_55 rfl rfl ?_
      refine x_getR (T := TX7) (p0 := 0) hc in_X7 rfl (by decide) (rfl : kd 0 = 7) 6 (by decide) tw_246 rfl rfl dX7_rise_56 ?_
      obtain ⟨x12, r13, hf⟩ := bj1_ok hf
      refine x_callVr (As := []) (p0 := 17) (v := (.int x12)) (T := TX0) hc (c_X0_middleWarmth (kl K) (kV K) 17 G10 x12 r13) mw_X0_middleWarmth tw_549 (sh_X7_trial (rfl : kd 0 = 7)) (by decide) rfl rfl (Nat.le_of_ble_eq_true rfl) ⟨Nat.le_of_ble_eq_true rfl, Nat.le_of_ble_eq_true rfl⟩ dX7_rise_59 rfl ?_
      refine x_iload_n hc 2 dX7_rise_62 rfl rfl ?_
      obtain ⟨x17, x18, hr, hf⟩ := bj2_ok hf
      have hj_77_14 : X K 77 [(0, .ref (kad K 0)), (1, .int x3), (2, .int x17), (3, .int x18), (4, .int v7)] [] G10 := by
        clear hr
        refine x_iinc (v := v7 + 1) (L' := [(0, .ref (kad K 0)), (1, .int x3), (2, .int x17), (3, .int x18), (4, .int (v7 + 1))]) hc 4 [1, 2, 3, 4, 0] dX7_rise_77 rfl rfl (by decide) rfl ?_
        refine x_goto (tgt := 39) hc dX7_rise_80 rfl ?_
        exact x_sub [0, 1, 2, 3, 4] (ih _ _ _ _ _ _ _ hf hk) rfl
      replace hf := hr
      clear hr
      refine x_icmp_le (tgt := 77) hc dX7_rise_63 rfl (fun c_63 => ?_) (fun c_63 => ?_)
      · replace hf := if_p hf c_63
        cases hf
        exact x_sub [0, 1, 2, 3, 4] hj_77_14 rfl
      · replace hf := if_n hf c_63
        refine x_aload_n hc 0 dX7_rise_66 rfl rfl ?_
        refine x_getR (T := TX7) (p0 := 0) hc in_X7 rfl (by decide) (rfl : kd 0 = 7) 6 (by decide) tw_246 rfl rfl dX7_rise_67 ?_
        obtain ⟨x15, r16, hf⟩ := bj1_ok hf
        refine x_callVr (As := []) (p0 := 17) (v := (.int x15)) (T := TX0) hc (c_X0_middleWarmth (kl K) (kV K) 17 G10 x15 r16) mw_X0_middleWarmth tw_549 (sh_X7_trial (rfl : kd 0 = 7)) (by decide) rfl rfl (Nat.le_of_ble_eq_true rfl) ⟨Nat.le_of_ble_eq_true rfl, Nat.le_of_ble_eq_true rfl⟩ dX7_rise_70 rfl ?_
        refine x_istore_n (L' := [(0, .ref (kad K 0)), (1, .int x3), (2, .int x15), (4, .int v7)]) hc [1, 2, 0, 4] dX7_rise_73 rfl (by decide) rfl ?_
        refine x_iload hc 3 dX7_rise_74 rfl ?_
        refine x_istore_n (L' := [(0, .ref (kad K 0)), (1, .int x3), (2, .int x15), (3, .int v7), (4, .int v7)]) hc [1, 2, 3, 0, 4] dX7_rise_76 rfl (by decide) rfl ?_
        cases hf
        exact x_sub [0, 1, 2, 3, 4] hj_77_14 rfl
set_option maxHeartbeats 4000000 in
set_option maxRecDepth 100000 in
theorem c_X7_rise (l : Launch) (V : VT)  (G : G_) (r : Int32) (G' : G_) (hf : f_X7_rise  G = some (r, G')) : MC l V yX7_rise cX7_rise 5 (some .int) 4 86 [.ref (V.2.2.1 0)] G (some (.int r)) G' := by
  refine mc_of (by decide) (Nat.le_of_ble_eq_true rfl) (fun K hV ho hc hkl => ?_)
  subst hV
  replace hc : Ok K cX7_rise RX7 (Cond.code yX7_rise cX7_rise 5 (some .int) :: TB) (some .int) 4 86 5 := hc
  replace ho : Rets K (some (.int r)) G' := ho
  show X K 0 [(0, .ref (kad K 0))] [] G
  unfold f_X7_rise at hf
  refine x_aload_n hc 0 dX7_rise_0 rfl rfl ?_
  refine x_getR (T := TX7) (p0 := 0) hc in_X7 rfl (by decide) (rfl : kd 0 = 7) 4 (by decide) tw_244 rfl rfl dX7_rise_1 ?_
  refine x_getI (T := TX0) (p0 := 5) hc in_X0 rfl (by decide) (sh_X7_dish (rfl : kd 0 = 7)) 7 (by decide) tw_101 rfl rfl dX7_rise_4 ?_
  refine x_if_ne (tgt := 13) hc dX7_rise_7 rfl (fun c_7 => ?_) (fun c_7 => ?_)
  · replace hf := if_n hf c_7
    refine x_aload_n hc 0 dX7_rise_13 rfl rfl ?_
    refine x_getR (T := TX7) (p0 := 0) hc in_X7 rfl (by decide) (rfl : kd 0 = 7) 6 (by decide) tw_246 rfl rfl dX7_rise_14 ?_
    refine x_aload_n hc 0 dX7_rise_17 rfl rfl ?_
    refine x_getR (T := TX7) (p0 := 0) hc in_X7 rfl (by decide) (rfl : kd 0 = 7) 4 (by decide) tw_244 rfl rfl dX7_rise_18 ?_
    obtain ⟨G1, r2, hf⟩ := bj1_ok hf
    refine x_callVv (As := [.ref (kad K 5)]) (p0 := 17) (T := TX0) hc (c_X0_become (kl K) (kV K) 17 5 G G1 r2) mw_X0_become tw_532 (sh_X7_trial (rfl : kd 0 = 7)) (by decide) rfl rfl (Nat.le_of_ble_eq_true rfl) ⟨Nat.le_of_ble_eq_true rfl, Nat.le_of_ble_eq_true rfl⟩ dX7_rise_21 rfl ?_
    refine x_aload_n hc 0 dX7_rise_24 rfl rfl ?_
    refine x_getR (T := TX7) (p0 := 0) hc in_X7 rfl (by decide) (rfl : kd 0 = 7) 6 (by decide) tw_246 rfl rfl dX7_rise_25 ?_
    obtain ⟨x3, r4, hf⟩ := bj1_ok hf
    refine x_callVr (As := []) (p0 := 17) (v := (.int x3)) (T := TX0) hc (c_X0_middleWarmth (kl K) (kV K) 17 G1 x3 r4) mw_X0_middleWarmth tw_549 (sh_X7_trial (rfl : kd 0 = 7)) (by decide) rfl rfl (Nat.le_of_ble_eq_true rfl) ⟨Nat.le_of_ble_eq_true rfl, Nat.le_of_ble_eq_true rfl⟩ dX7_rise_28 rfl ?_
    refine x_istore_n (L' := [(0, .ref (kad K 0)), (1, .int x3)]) hc [1, 0] dX7_rise_31 rfl (by decide) rfl ?_
    refine x_iload_n hc 1 dX7_rise_32 rfl rfl ?_
    refine x_istore_n (L' := [(0, .ref (kad K 0)), (1, .int x3), (2, .int x3)]) hc [1, 2, 0] dX7_rise_33 rfl (by decide) rfl ?_
    refine x_iconst (v := 0) hc rfl dX7_rise_34 ?_
    refine x_istore_n (L' := [(0, .ref (kad K 0)), (1, .int x3), (2, .int x3), (3, .int 0)]) hc [1, 2, 3, 0] dX7_rise_35 rfl (by decide) rfl ?_
    refine x_iconst (v := 1) hc rfl dX7_rise_36 ?_
    refine x_istore (L' := [(0, .ref (kad K 0)), (1, .int x3), (2, .int x3), (3, .int 0), (4, .int 1)]) hc [1, 2, 3, 4, 0] dX7_rise_37 (by decide) rfl ?_
    obtain ⟨x19, x20, G21, hl_39, hf⟩ := bj3_ok hf
    have he_83_n9 : X K 83 [(0, .ref (kad K 0)), (1, .int x3), (2, .int x19), (3, .int x20)] [] G21 := by
      clear hl_39
      refine x_aload_n hc 0 dX7_rise_83 rfl rfl ?_
      refine x_iload_n hc 2 dX7_rise_84 rfl rfl ?_
      refine x_iload_n hc 1 dX7_rise_85 rfl rfl ?_
      refine x_isub hc dX7_rise_86 ?_
      refine x_iload_n hc 3 dX7_rise_87 rfl rfl ?_
      obtain ⟨x23, G22, r24, hf⟩ := bj2_ok hf
      refine x_callVr (As := [.int (x19 - x3), .int x20]) (p0 := 0) (v := (.int x23)) (T := TX7) hc (c_X7_told (kl K) (kV K) (x19 - x3) x20 G21 x23 G22 r24) mw_X7_told tw_457 (rfl : kd 0 = 7) (by decide) rfl rfl (Nat.le_of_ble_eq_true rfl) ⟨Nat.le_of_ble_eq_true rfl, Nat.le_of_ble_eq_true rfl⟩ dX7_rise_88 rfl ?_
      cases hf
      exact x_iret hc rfl ho dX7_rise_91
    exact x_sub [0, 1, 2, 3, 4] (c_X7_rise_l39_9 x3 hc  FU x3 0 1 G1 x19 x20 G21 hl_39 he_83_n9) rfl
  · replace hf := if_p hf c_7
    refine x_bipush (v := (-4)) hc rfl dX7_rise_10 ?_
    cases hf
    exact x_iret hc rfl ho dX7_rise_12
def f_X7_most_l107_26 (a2 : Int32) (a3 : Int32) (a4 : Int32) (p3 : Nat) (v11 : Int32) (v16 : Int32) : Nat → Int32 → Int32 → Int32 → G_ → Option (Int32 × Int32 × G_)
  | 0, _, _, _, _ => none
  | n26 + 1, v22, v23, v24, G25 =>
    if 80 < v24 then (
      some (v22, v23, G25))
    else (
      bj1 (f_X0_goByWay 17 v11 (sTU (ix v16)) G25) fun G27 =>
      bj1 (
        if v24 - v24 / 4 * 4 = 0 then (
          bj1 (f_X0_crust 17 G27) fun x30 =>
          if x30 < a4 then (
            some ((-1)))
          else (
            bj1 (f_X0_justSo 17 a2 a3 G27) fun x32 =>
            some (x32)))
        else (
          some ((-1)))) fun (x34 : Int32) =>
      nm (((10000 * v11) + (100 * v24)) + (sTU (ix v16))) fun x35 =>
      bj2 (
        if v23 < x34 then (
          some (x35, x34))
        else (
          if x34 < 0 then (
            some (v22, v23))
          else (
            if x34 = v23 then (
              if v22 ≤ x35 then (
                some (v22, v23))
              else (
                some (x35, x34)))
            else (
              some (v22, v23))))) fun (x37 : Int32) (x38 : Int32) =>
      f_X7_most_l107_26 a2 a3 a4 p3 v11 v16 n26 x37 x38 (v24 + 1) G27)
def f_X7_most_l68_18 (a2 : Int32) (a3 : Int32) (a4 : Int32) (p3 : Nat) (v11 : Int32) : Nat → Int32 → Int32 → Int32 → G_ → Option (Int32 × Int32 × G_)
  | 0, _, _, _, _ => none
  | n18 + 1, v14, v15, v16, G17 =>
    if 5 ≤ v16 then (
      some (v14, v15, G17))
    else (
      chk (inb v16 5) <|
      bj1 (f_X0_begin 17 p3 (G17.1 p3 1) (G17.1 p3 3) G17) fun G20 =>
      bj3 (f_X7_most_l107_26 a2 a3 a4 p3 v11 v16 FU v14 v15 1 G20) fun x39 x40 G41 =>
      f_X7_most_l68_18 a2 a3 a4 p3 v11 n18 x39 x40 (v16 + 1) G41)
def f_X7_most_l58_13 (a2 : Int32) (a3 : Int32) (a4 : Int32) (p3 : Nat) : Nat → Int32 → Int32 → Int32 → G_ → Option (Int32 × Int32 × G_)
  | 0, _, _, _, _ => none
  | n13 + 1, v9, v10, v11, G12 =>
    if 30 < v11 then (
      some (v9, v10, G12))
    else (
      bj3 (f_X7_most_l68_18 a2 a3 a4 p3 v11 FU v9 v10 0 G12) fun x42 x43 G44 =>
      f_X7_most_l58_13 a2 a3 a4 p3 n13 x42 x43 (v11 + 2) G44)
def f_X7_most (a1 : Int32) (a2 : Int32) (a3 : Int32) (a4 : Int32) (G : G_) : Option (Int32 × G_) :=
  bj1 (f_X7_slabAt a1 G) fun o1 =>
  mo o1 (
    some ((-1), G)) (fun p3 =>
    chk (kd p3 == 5) <|
    bj1 (f_X7_isSpan a2 a3) fun x5 =>
    if x5 = 0 then (
      some ((-1), G))
    else (
      bj1 (f_X7_within a4 0 99) fun x7 =>
      if x7 = 0 then (
        some ((-1), G))
      else (
        if G.1 p3 0 = 0 then (
          bj2 (f_X7_found 1 G) fun x52 G51 =>
          some (x52, G51))
        else (
          bj3 (f_X7_most_l58_13 a2 a3 a4 p3 FU (-9) (-1) 14 G) fun x45 x46 G47 =>
          if x45 = (-9) then (
            some ((-9), G47))
          else (
            bj2 (f_X7_told x45 x46 G47) fun x49 G48 =>
            some (x49, G48))))))
set_option maxHeartbeats 4000000 in
set_option maxRecDepth 100000 in
theorem c_X7_most_l107_26 {K : CT} (a2 : Int32) (a3 : Int32) (a4 : Int32) (p3 : Nat) (v11 : Int32) (v16 : Int32) (hc : Ok K cX7_most RX7 (Cond.code yX7_most cX7_most 14 (some .int) :: TB) (some .int) 4 93 14)  : ∀ (n26 : Nat) (v22 : Int32) (v23 : Int32) (v24 : Int32) (G25 : G_) (x39 : Int32) (x40 : Int32) (G41 : G_), f_X7_most_l107_26 a2 a3 a4 p3 v11 v16 n26 v22 v23 v24 G25 = some (x39, x40, G41) → X K 216 [(0, .ref (kad K 0)), (2, .int a2), (3, .int a3), (4, .int a4), (5, .ref (kad K p3)), (6, .int x39), (7, .int x40), (8, .int v11), (9, .int v16)] [] G41 → X K 107 [(0, .ref (kad K 0)), (2, .int a2), (3, .int a3), (4, .int a4), (5, .ref (kad K p3)), (6, .int v22), (7, .int v23), (8, .int v11), (9, .int v16), (10, .int (sTU (ix v16))), (11, .int v24)] [] G25 := by
  intro n26
  induction n26 with
  | zero =>
    intro v22 v23 v24 G25 x39 x40 G41 hf hk
    cases hf
  | succ n26 ih =>
    intro v22 v23 v24 G25 x39 x40 G41 hf hk
    unfold f_X7_most_l107_26 at hf
    refine x_iload hc 10 dX7_most_107 rfl ?_
    refine x_bipush (v := 80) hc rfl dX7_most_109 ?_
    refine x_icmp_gt (tgt := 216) hc dX7_most_111 rfl (fun c_111 => ?_) (fun c_111 => ?_)
    · replace hf := if_p hf c_111
      cases hf
      exact x_sub [0, 1, 2, 3, 4, 5, 6, 7, 8] hk rfl
    · replace hf := if_n hf c_111
      refine x_aload_n hc 0 dX7_most_114 rfl rfl ?_
      refine x_getR (T := TX7) (p0 := 0) hc in_X7 rfl (by decide) (rfl : kd 0 = 7) 6 (by decide) tw_246 rfl rfl dX7_most_115 ?_
      refine x_iload hc 7 dX7_most_118 rfl ?_
      refine x_iload hc 9 dX7_most_120 rfl ?_
      obtain ⟨G27, r28, hf⟩ := bj1_ok hf
      refine x_callVv (As := [.int v11, .int (sTU (ix v16))]) (p0 := 17) (T := TX0) hc (c_X0_goByWay (kl K) (kV K) 17 v11 (sTU (ix v16)) G25 G27 r28) mw_X0_goByWay tw_799 (sh_X7_trial (rfl : kd 0 = 7)) (by decide) rfl rfl (Nat.le_of_ble_eq_true rfl) ⟨Nat.le_of_ble_eq_true rfl, Nat.le_of_ble_eq_true rfl⟩ dX7_most_122 rfl ?_
      refine x_iload hc 10 dX7_most_125 rfl ?_
      refine x_iconst (v := 4) hc rfl dX7_most_127 ?_
      refine x_irem hc (by decide) dX7_most_128 ?_
      obtain ⟨x34, hr, hf⟩ := bj1_ok hf
      have hj_157_29 : X K 157 [(0, .ref (kad K 0)), (2, .int a2), (3, .int a3), (4, .int a4), (5, .ref (kad K p3)), (6, .int v22), (7, .int v23), (8, .int v11), (9, .int v16), (10, .int (sTU (ix v16))), (11, .int v24)] [.int x34] G27 := by
        clear hr
        refine x_istore (L' := [(0, .ref (kad K 0)), (2, .int a2), (3, .int a3), (4, .int a4), (5, .ref (kad K p3)), (6, .int v22), (7, .int v23), (8, .int v11), (9, .int v16), (10, .int (sTU (ix v16))), (11, .int v24), (12, .int x34)]) hc [1, 2, 3, 4, 5, 6, 7, 8, 9, 10, 11, 0] dX7_most_157 (by decide) rfl ?_
        refine x_sipush (v := 10000) hc rfl dX7_most_159 ?_
        refine x_iload hc 7 dX7_most_162 rfl ?_
        refine x_imul hc dX7_most_164 ?_
        refine x_bipush (v := 100) hc rfl dX7_most_165 ?_
        refine x_iload hc 10 dX7_most_167 rfl ?_
        refine x_imul hc dX7_most_169 ?_
        refine x_iadd hc dX7_most_170 ?_
        refine x_iload hc 9 dX7_most_171 rfl ?_
        refine x_iadd hc dX7_most_173 ?_
        refine x_nmi (fun x35 e_x35 => ?_)
        replace hf := nm_ok hf x35 e_x35
        refine x_istore (L' := [(0, .ref (kad K 0)), (2, .int a2), (3, .int a3), (4, .int a4), (5, .ref (kad K p3)), (6, .int v22), (7, .int v23), (8, .int v11), (9, .int v16), (10, .int (sTU (ix v16))), (11, .int v24), (12, .int x34), (13, .int x35)]) hc [1, 2, 3, 4, 5, 6, 7, 8, 9, 10, 11, 12, 0] dX7_most_174 (by decide) rfl ?_
        refine x_iload hc 11 dX7_most_176 rfl ?_
        refine x_iload hc 6 dX7_most_178 rfl ?_
        obtain ⟨x37, x38, hr, hf⟩ := bj2_ok hf
        have hj_210_36 : X K 210 [(0, .ref (kad K 0)), (2, .int a2), (3, .int a3), (4, .int a4), (5, .ref (kad K p3)), (6, .int x37), (7, .int x38), (8, .int v11), (9, .int v16), (10, .int (sTU (ix v16))), (11, .int v24)] [] G27 := by
          clear hr
          refine x_iinc (v := v24 + 1) (L' := [(0, .ref (kad K 0)), (2, .int a2), (3, .int a3), (4, .int a4), (5, .ref (kad K p3)), (6, .int x37), (7, .int x38), (8, .int v11), (9, .int v16), (10, .int (sTU (ix v16))), (11, .int (v24 + 1))]) hc 10 [1, 2, 3, 4, 5, 6, 7, 8, 9, 10, 0] dX7_most_210 rfl rfl (by decide) rfl ?_
          refine x_goto (tgt := 107) hc dX7_most_213 rfl ?_
          exact x_sub [0, 1, 2, 3, 4, 5, 6, 7, 8, 9, 10] (ih _ _ _ _ _ _ _ hf hk) rfl
        replace hf := hr
        clear hr
        refine x_icmp_gt (tgt := 202) hc dX7_most_180 rfl (fun c_180 => ?_) (fun c_180 => ?_)
        · replace hf := if_p hf c_180
          refine x_iload hc 11 dX7_most_202 rfl ?_
          refine x_istore (L' := [(0, .ref (kad K 0)), (2, .int a2), (3, .int a3), (4, .int a4), (5, .ref (kad K p3)), (7, .int x34), (8, .int v11), (9, .int v16), (10, .int (sTU (ix v16))), (11, .int v24), (13, .int x35)]) hc [1, 2, 3, 4, 5, 0, 7, 8, 9, 10, 12] dX7_most_204 (by decide) rfl ?_
          refine x_iload hc 10 dX7_most_206 rfl ?_
          refine x_istore (L' := [(0, .ref (kad K 0)), (2, .int a2), (3, .int a3), (4, .int a4), (5, .ref (kad K p3)), (6, .int x35), (7, .int x34), (8, .int v11), (9, .int v16), (10, .int (sTU (ix v16))), (11, .int v24)]) hc [1, 2, 3, 4, 5, 0, 6, 7, 8, 9, 10] dX7_most_208 (by decide) rfl ?_
          cases hf
          exact x_sub [0, 1, 2, 3, 4, 5, 6, 7, 8, 9, 10] hj_210_36 rfl
        · replace hf := if_n hf c_180
          refine x_iload hc 11 dX7_most_183 rfl ?_
          refine x_if_lt (tgt := 210) hc dX7_most_185 rfl (fun c_185 => ?_) (fun c_185 => ?_)
          · replace hf := if_p hf c_185
            cases hf
            exact x_sub [0, 1, 2, 3, 4, 5, 6, 7, 8, 9, 10] hj_210_36 rfl
          · replace hf := if_n hf c_185
            refine x_iload hc 11 dX7_most_188 rfl ?_
            refine x_iload hc 6 dX7_most_190 rfl ?_
            refine x_icmp_ne (tgt := 210) hc dX7_most_192 rfl (fun c_192 => ?_) (fun c_192 => ?_)
            · replace hf := if_n hf c_192
              cases hf
              exact x_sub [0, 1, 2, 3, 4, 5, 6, 7, 8, 9, 10] hj_210_36 rfl
            · replace hf := if_p hf c_192
              refine x_iload hc 12 dX7_most_195 rfl ?_
              refine x_iload hc 5 dX7_most_197 rfl ?_
              refine x_icmp_ge (tgt := 210) hc dX7_most_199 rfl (fun c_199 => ?_) (fun c_199 => ?_)
              · replace hf := if_p hf c_199
                cases hf
                exact x_sub [0, 1, 2, 3, 4, 5, 6, 7, 8, 9, 10] hj_210_36 rfl
              · replace hf := if_n hf c_199
                refine x_iload hc 11 dX7_most_202 rfl ?_
                refine x_istore (L' := [(0, .ref (kad K 0)), (2, .int a2), (3, .int a3), (4, .int a4), (5, .ref (kad K p3)), (7, .int x34), (8, .int v11), (9, .int v16), (10, .int (sTU (ix v16))), (11, .int v24), (13, .int x35)]) hc [1, 2, 3, 4, 5, 0, 7, 8, 9, 10, 12] dX7_most_204 (by decide) rfl ?_
                refine x_iload hc 10 dX7_most_206 rfl ?_
                refine x_istore (L' := [(0, .ref (kad K 0)), (2, .int a2), (3, .int a3), (4, .int a4), (5, .ref (kad K p3)), (6, .int x35), (7, .int x34), (8, .int v11), (9, .int v16), (10, .int (sTU (ix v16))), (11, .int v24)]) hc [1, 2, 3, 4, 5, 0, 6, 7, 8, 9, 10] dX7_most_208 (by decide) rfl ?_
                cases hf
                exact x_sub [0, 1, 2, 3, 4, 5, 6, 7, 8, 9, 10] hj_210_36 rfl
      replace hf := hr
      clear hr
      refine x_if_ne (tgt := 156) hc dX7_most_129 rfl (fun c_129 => ?_) (fun c_129 => ?_)
      · replace hf := if_n hf c_129
        refine x_iconst (v := (-1)) hc rfl dX7_most_156 ?_
        cases hf
        exact x_sub [0, 1, 2, 3, 4, 5, 6, 7, 8, 9, 10] hj_157_29 rfl
      · replace hf := if_p hf c_129
        refine x_aload_n hc 0 dX7_most_132 rfl rfl ?_
        refine x_getR (T := TX7) (p0 := 0) hc in_X7 rfl (by decide) (rfl : kd 0 = 7) 6 (by decide) tw_246 rfl rfl dX7_most_133 ?_
        obtain ⟨x30, r31, hf⟩ := bj1_ok hf
        refine x_callVr (As := []) (p0 := 17) (v := (.int x30)) (T := TX0) hc (c_X0_crust (kl K) (kV K) 17 G27 x30 r31) mw_X0_crust tw_781 (sh_X7_trial (rfl : kd 0 = 7)) (by decide) rfl rfl (Nat.le_of_ble_eq_true rfl) ⟨Nat.le_of_ble_eq_true rfl, Nat.le_of_ble_eq_true rfl⟩ dX7_most_136 rfl ?_
        refine x_iload hc 3 dX7_most_139 rfl ?_
        refine x_icmp_lt (tgt := 156) hc dX7_most_141 rfl (fun c_141 => ?_) (fun c_141 => ?_)
        · replace hf := if_p hf c_141
          refine x_iconst (v := (-1)) hc rfl dX7_most_156 ?_
          cases hf
          exact x_sub [0, 1, 2, 3, 4, 5, 6, 7, 8, 9, 10] hj_157_29 rfl
        · replace hf := if_n hf c_141
          refine x_aload_n hc 0 dX7_most_144 rfl rfl ?_
          refine x_getR (T := TX7) (p0 := 0) hc in_X7 rfl (by decide) (rfl : kd 0 = 7) 6 (by decide) tw_246 rfl rfl dX7_most_145 ?_
          refine x_iload_n hc 1 dX7_most_148 rfl rfl ?_
          refine x_iload_n hc 2 dX7_most_149 rfl rfl ?_
          obtain ⟨x32, r33, hf⟩ := bj1_ok hf
          refine x_callVr (As := [.int a2, .int a3]) (p0 := 17) (v := (.int x32)) (T := TX0) hc (c_X0_justSo (kl K) (kV K) 17 a2 a3 G27 x32 r33) mw_X0_justSo tw_488 (sh_X7_trial (rfl : kd 0 = 7)) (by decide) rfl rfl (Nat.le_of_ble_eq_true rfl) ⟨Nat.le_of_ble_eq_true rfl, Nat.le_of_ble_eq_true rfl⟩ dX7_most_150 rfl ?_
          refine x_goto (tgt := 157) hc dX7_most_153 rfl ?_
          cases hf
          exact x_sub [0, 1, 2, 3, 4, 5, 6, 7, 8, 9, 10] hj_157_29 rfl
set_option maxHeartbeats 4000000 in
set_option maxRecDepth 100000 in
theorem c_X7_most_l68_18 {K : CT} (a2 : Int32) (a3 : Int32) (a4 : Int32) (p3 : Nat) (v11 : Int32) (hc : Ok K cX7_most RX7 (Cond.code yX7_most cX7_most 14 (some .int) :: TB) (some .int) 4 93 14) (k4 : (kd p3 == 5) = true) : ∀ (n18 : Nat) (v14 : Int32) (v15 : Int32) (v16 : Int32) (G17 : G_) (x42 : Int32) (x43 : Int32) (G44 : G_), f_X7_most_l68_18 a2 a3 a4 p3 v11 n18 v14 v15 v16 G17 = some (x42, x43, G44) → X K 222 [(0, .ref (kad K 0)), (2, .int a2), (3, .int a3), (4, .int a4), (5, .ref (kad K p3)), (6, .int x42), (7, .int x43), (8, .int v11)] [] G44 → X K 68 [(0, .ref (kad K 0)), (2, .int a2), (3, .int a3), (4, .int a4), (5, .ref (kad K p3)), (6, .int v14), (7, .int v15), (8, .int v11), (9, .int v16)] [] G17 := by
  intro n18
  induction n18 with
  | zero =>
    intro v14 v15 v16 G17 x42 x43 G44 hf hk
    cases hf
  | succ n18 ih =>
    intro v14 v15 v16 G17 x42 x43 G44 hf hk
    unfold f_X7_most_l68_18 at hf
    refine x_iload hc 8 dX7_most_68 rfl ?_
    refine x_getsTU hc tw_797 dX7_most_70 ?_
    refine x_tlenTU hc dX7_most_73 ?_
    refine x_icmp_ge (tgt := 222) hc dX7_most_74 rfl (fun c_74 => ?_) (fun c_74 => ?_)
    · replace hf := if_p hf c_74
      cases hf
      exact x_sub [0, 1, 2, 3, 4, 5, 6, 7] hk rfl
    · replace hf := if_n hf c_74
      refine x_getsTU hc tw_797 dX7_most_77 ?_
      refine x_iload hc 8 dX7_most_80 rfl ?_
      obtain ⟨h19, hf⟩ := chk_ok hf
      refine x_tldTU hc h19 dX7_most_82 ?_
      refine x_istore (L' := [(0, .ref (kad K 0)), (2, .int a2), (3, .int a3), (4, .int a4), (5, .ref (kad K p3)), (6, .int v14), (7, .int v15), (8, .int v11), (9, .int v16), (10, .int (sTU (ix v16)))]) hc [1, 2, 3, 4, 5, 6, 7, 8, 9, 0] dX7_most_83 (by decide) rfl ?_
      refine x_aload_n hc 0 dX7_most_85 rfl rfl ?_
      refine x_getR (T := TX7) (p0 := 0) hc in_X7 rfl (by decide) (rfl : kd 0 = 7) 6 (by decide) tw_246 rfl rfl dX7_most_86 ?_
      refine x_aload hc 4 dX7_most_89 rfl ?_
      refine x_aload hc 4 dX7_most_91 rfl ?_
      refine x_getI (T := TX5) (p0 := p3) hc in_X5 rfl (by decide) (kdb k4) 1 (by decide) tw_173 rfl rfl dX7_most_93 ?_
      refine x_aload hc 4 dX7_most_96 rfl ?_
      refine x_getI (T := TX5) (p0 := p3) hc in_X5 rfl (by decide) (kdb k4) 3 (by decide) tw_180 rfl rfl dX7_most_98 ?_
      obtain ⟨G20, r21, hf⟩ := bj1_ok hf
      refine x_callVv (As := [.ref (kad K p3), .int (G17.1 p3 1), .int (G17.1 p3 3)]) (p0 := 17) (T := TX0) hc (c_X0_begin (kl K) (kV K) 17 p3 (G17.1 p3 1) (G17.1 p3 3) G17 G20 r21) mw_X0_begin tw_386 (sh_X7_trial (rfl : kd 0 = 7)) (by decide) rfl rfl (Nat.le_of_ble_eq_true rfl) ⟨Nat.le_of_ble_eq_true rfl, Nat.le_of_ble_eq_true rfl⟩ dX7_most_101 rfl ?_
      refine x_iconst (v := 1) hc rfl dX7_most_104 ?_
      refine x_istore (L' := [(0, .ref (kad K 0)), (2, .int a2), (3, .int a3), (4, .int a4), (5, .ref (kad K p3)), (6, .int v14), (7, .int v15), (8, .int v11), (9, .int v16), (10, .int (sTU (ix v16))), (11, .int 1)]) hc [1, 2, 3, 4, 5, 6, 7, 8, 9, 10, 0] dX7_most_105 (by decide) rfl ?_
      obtain ⟨x39, x40, G41, hl_107, hf⟩ := bj3_ok hf
      have he_216_n26 : X K 216 [(0, .ref (kad K 0)), (2, .int a2), (3, .int a3), (4, .int a4), (5, .ref (kad K p3)), (6, .int x39), (7, .int x40), (8, .int v11), (9, .int v16)] [] G41 := by
        clear hl_107
        refine x_iinc (v := v16 + 1) (L' := [(0, .ref (kad K 0)), (2, .int a2), (3, .int a3), (4, .int a4), (5, .ref (kad K p3)), (6, .int x39), (7, .int x40), (8, .int v11), (9, .int (v16 + 1))]) hc 8 [1, 2, 3, 4, 5, 6, 7, 8, 0] dX7_most_216 rfl rfl (by decide) rfl ?_
        refine x_goto (tgt := 68) hc dX7_most_219 rfl ?_
        exact x_sub [0, 1, 2, 3, 4, 5, 6, 7, 8] (ih _ _ _ _ _ _ _ hf hk) rfl
      exact x_sub [0, 1, 2, 3, 4, 5, 6, 7, 8, 9, 10] (c_X7_most_l107_26 a2 a3 a4 p3 v11 v16 hc  FU v14 v15 1 G20 x39 x40 G41 hl_107 he_216_n26) rfl
set_option maxHeartbeats 4000000 in
set_option maxRecDepth 100000 in
theorem c_X7_most_l58_13 {K : CT} (a2 : Int32) (a3 : Int32) (a4 : Int32) (p3 : Nat) (hc : Ok K cX7_most RX7 (Cond.code yX7_most cX7_most 14 (some .int) :: TB) (some .int) 4 93 14) (k4 : (kd p3 == 5) = true) : ∀ (n13 : Nat) (v9 : Int32) (v10 : Int32) (v11 : Int32) (G12 : G_) (x45 : Int32) (x46 : Int32) (G47 : G_), f_X7_most_l58_13 a2 a3 a4 p3 n13 v9 v10 v11 G12 = some (x45, x46, G47) → X K 228 [(0, .ref (kad K 0)), (6, .int x45), (7, .int x46)] [] G47 → X K 58 [(0, .ref (kad K 0)), (2, .int a2), (3, .int a3), (4, .int a4), (5, .ref (kad K p3)), (6, .int v9), (7, .int v10), (8, .int v11)] [] G12 := by
  intro n13
  induction n13 with
  | zero =>
    intro v9 v10 v11 G12 x45 x46 G47 hf hk
    cases hf
  | succ n13 ih =>
    intro v9 v10 v11 G12 x45 x46 G47 hf hk
    unfold f_X7_most_l58_13 at hf
    refine x_iload hc 7 dX7_most_58 rfl ?_
    refine x_bipush (v := 30) hc rfl dX7_most_60 ?_
    refine x_icmp_gt (tgt := 228) hc dX7_most_62 rfl (fun c_62 => ?_) (fun c_62 => ?_)
    · replace hf := if_p hf c_62
      cases hf
      exact x_sub [0, 5, 6] hk rfl
    · replace hf := if_n hf c_62
      refine x_iconst (v := 0) hc rfl dX7_most_65 ?_
      refine x_istore (L' := [(0, .ref (kad K 0)), (2, .int a2), (3, .int a3), (4, .int a4), (5, .ref (kad K p3)), (6, .int v9), (7, .int v10), (8, .int v11), (9, .int 0)]) hc [1, 2, 3, 4, 5, 6, 7, 8, 0] dX7_most_66 (by decide) rfl ?_
      obtain ⟨x42, x43, G44, hl_68, hf⟩ := bj3_ok hf
      have he_222_n18 : X K 222 [(0, .ref (kad K 0)), (2, .int a2), (3, .int a3), (4, .int a4), (5, .ref (kad K p3)), (6, .int x42), (7, .int x43), (8, .int v11)] [] G44 := by
        clear hl_68
        refine x_iinc (v := v11 + 2) (L' := [(0, .ref (kad K 0)), (2, .int a2), (3, .int a3), (4, .int a4), (5, .ref (kad K p3)), (6, .int x42), (7, .int x43), (8, .int (v11 + 2))]) hc 7 [1, 2, 3, 4, 5, 6, 7, 0] dX7_most_222 rfl rfl (by decide) rfl ?_
        refine x_goto (tgt := 58) hc dX7_most_225 rfl ?_
        exact x_sub [0, 1, 2, 3, 4, 5, 6, 7] (ih _ _ _ _ _ _ _ hf hk) rfl
      exact x_sub [0, 1, 2, 3, 4, 5, 6, 7, 8] (c_X7_most_l68_18 a2 a3 a4 p3 v11 hc k4 FU v9 v10 0 G12 x42 x43 G44 hl_68 he_222_n18) rfl
set_option maxHeartbeats 4000000 in
set_option maxRecDepth 100000 in
theorem c_X7_most (l : Launch) (V : VT) (a1 : Int32) (a2 : Int32) (a3 : Int32) (a4 : Int32) (G : G_) (r : Int32) (G' : G_) (hf : f_X7_most a1 a2 a3 a4 G = some (r, G')) : MC l V yX7_most cX7_most 14 (some .int) 4 93 [.ref (V.2.2.1 0), .int a1, .int a2, .int a3, .int a4] G (some (.int r)) G' := by
  refine mc_of (by decide) (Nat.le_of_ble_eq_true rfl) (fun K hV ho hc hkl => ?_)
  subst hV
  replace hc : Ok K cX7_most RX7 (Cond.code yX7_most cX7_most 14 (some .int) :: TB) (some .int) 4 93 14 := hc
  replace ho : Rets K (some (.int r)) G' := ho
  show X K 0 [(0, .ref (kad K 0)), (1, .int a1), (2, .int a2), (3, .int a3), (4, .int a4)] [] G
  unfold f_X7_most at hf
  refine x_aload_n hc 0 dX7_most_0 rfl rfl ?_
  refine x_iload_n hc 1 dX7_most_1 rfl rfl ?_
  obtain ⟨o1, r2, hf⟩ := bj1_ok hf
  refine x_callVr (As := [.int a1]) (p0 := 0) (v := (rfo K o1)) (T := TX7) hc (c_X7_slabAt (kl K) (kV K) a1 G o1 r2) mw_X7_slabAt tw_382 (rfl : kd 0 = 7) (by decide) rfl rfl (Nat.le_of_ble_eq_true rfl) ⟨Nat.le_of_ble_eq_true rfl, Nat.le_of_ble_eq_true rfl⟩ dX7_most_2 rfl ?_
  refine x_astoreO (L' := [(0, .ref (kad K 0)), (2, .int a2), (3, .int a3), (4, .int a4), (5, rfo K o1)]) hc [1, 3, 4, 5, 0] dX7_most_5 (by decide) rfl ?_
  refine x_aloadO hc 4 dX7_most_7 rfl ?_
  cases o1 with
  | none =>
    replace hf := mo_n hf
    show X K 9 [(0, .ref (kad K 0)), (2, .int a2), (3, .int a3), (4, .int a4), (5, .null)] [.null] G
    refine x_ifnullN (tgt := 31) hc dX7_most_9 rfl ?_
    refine x_iconst (v := (-1)) hc rfl dX7_most_31 ?_
    cases hf
    exact x_iret hc rfl ho dX7_most_32
  | some p3 =>
    replace hf := mo_s hf
    obtain ⟨k4, hf⟩ := chk_ok hf
    show X K 9 [(0, .ref (kad K 0)), (2, .int a2), (3, .int a3), (4, .int a4), (5, .ref (kad K p3))] [.ref (kad K p3)] G
    refine x_ifnullR hc dX7_most_9 ?_
    refine x_iload_n hc 1 dX7_most_12 rfl rfl ?_
    refine x_iload_n hc 2 dX7_most_13 rfl rfl ?_
    obtain ⟨x5, r6, hf⟩ := bj1_ok hf
    refine x_callSr (As := [.int a2, .int a3]) (v := (.int x5)) hc (c_X7_isSpan (kl K) (kV K) a2 a3 G x5 r6) mw_X7_isSpan tw_485 rfl (Nat.le_of_ble_eq_true rfl) ⟨Nat.le_of_ble_eq_true rfl, Nat.le_of_ble_eq_true rfl⟩ dX7_most_14 rfl ?_
    refine x_if_eq (tgt := 31) hc dX7_most_17 rfl (fun c_17 => ?_) (fun c_17 => ?_)
    · replace hf := if_p hf c_17
      refine x_iconst (v := (-1)) hc rfl dX7_most_31 ?_
      cases hf
      exact x_iret hc rfl ho dX7_most_32
    · replace hf := if_n hf c_17
      refine x_iload hc 3 dX7_most_20 rfl ?_
      refine x_iconst (v := 0) hc rfl dX7_most_22 ?_
      refine x_bipush (v := 99) hc rfl dX7_most_23 ?_
      obtain ⟨x7, r8, hf⟩ := bj1_ok hf
      refine x_callSr (As := [.int a4, .int 0, .int 99]) (v := (.int x7)) hc (c_X7_within (kl K) (kV K) a4 0 99 G x7 r8) mw_X7_within tw_401 rfl (Nat.le_of_ble_eq_true rfl) ⟨Nat.le_of_ble_eq_true rfl, Nat.le_of_ble_eq_true rfl⟩ dX7_most_25 rfl ?_
      refine x_if_ne (tgt := 33) hc dX7_most_28 rfl (fun c_28 => ?_) (fun c_28 => ?_)
      · replace hf := if_n hf c_28
        refine x_aload hc 4 dX7_most_33 rfl ?_
        refine x_getI (T := TX5) (p0 := p3) hc in_X5 rfl (by decide) (kdb k4) 0 (by decide) tw_169 rfl rfl dX7_most_35 ?_
        refine x_if_ne (tgt := 47) hc dX7_most_38 rfl (fun c_38 => ?_) (fun c_38 => ?_)
        · replace hf := if_n hf c_38
          refine x_bipush (v := (-9)) hc rfl dX7_most_47 ?_
          refine x_istore (L' := [(0, .ref (kad K 0)), (2, .int a2), (3, .int a3), (4, .int a4), (5, .ref (kad K p3)), (6, .int (-9))]) hc [1, 2, 3, 4, 5, 0] dX7_most_49 (by decide) rfl ?_
          refine x_iconst (v := (-1)) hc rfl dX7_most_51 ?_
          refine x_istore (L' := [(0, .ref (kad K 0)), (2, .int a2), (3, .int a3), (4, .int a4), (5, .ref (kad K p3)), (6, .int (-9)), (7, .int (-1))]) hc [1, 2, 3, 4, 5, 6, 0] dX7_most_52 (by decide) rfl ?_
          refine x_bipush (v := 14) hc rfl dX7_most_54 ?_
          refine x_istore (L' := [(0, .ref (kad K 0)), (2, .int a2), (3, .int a3), (4, .int a4), (5, .ref (kad K p3)), (6, .int (-9)), (7, .int (-1)), (8, .int 14)]) hc [1, 2, 3, 4, 5, 6, 7, 0] dX7_most_56 (by decide) rfl ?_
          obtain ⟨x45, x46, G47, hl_58, hf⟩ := bj3_ok hf
          have he_228_n13 : X K 228 [(0, .ref (kad K 0)), (6, .int x45), (7, .int x46)] [] G47 := by
            clear hl_58
            refine x_iload hc 1 dX7_most_228 rfl ?_
            refine x_bipush (v := (-9)) hc rfl dX7_most_230 ?_
            refine x_icmp_ne (tgt := 240) hc dX7_most_232 rfl (fun c_232 => ?_) (fun c_232 => ?_)
            · replace hf := if_n hf c_232
              refine x_aload_n hc 0 dX7_most_240 rfl rfl ?_
              refine x_iload hc 1 dX7_most_241 rfl ?_
              refine x_iload hc 2 dX7_most_243 rfl ?_
              obtain ⟨x49, G48, r50, hf⟩ := bj2_ok hf
              refine x_callVr (As := [.int x45, .int x46]) (p0 := 0) (v := (.int x49)) (T := TX7) hc (c_X7_told (kl K) (kV K) x45 x46 G47 x49 G48 r50) mw_X7_told tw_457 (rfl : kd 0 = 7) (by decide) rfl rfl (Nat.le_of_ble_eq_true rfl) ⟨Nat.le_of_ble_eq_true rfl, Nat.le_of_ble_eq_true rfl⟩ dX7_most_245 rfl ?_
              cases hf
              exact x_iret hc rfl ho dX7_most_248
            · replace hf := if_p hf c_232
              refine x_bipush (v := (-9)) hc rfl dX7_most_235 ?_
              refine x_goto (tgt := 248) hc dX7_most_237 rfl ?_
              cases hf
              exact x_iret hc rfl ho dX7_most_248
          exact x_sub [0, 1, 2, 3, 4, 5, 6, 7] (c_X7_most_l58_13 a2 a3 a4 p3 hc k4 FU (-9) (-1) 14 G x45 x46 G47 hl_58 he_228_n13) rfl
        · replace hf := if_p hf c_38
          refine x_aload_n hc 0 dX7_most_41 rfl rfl ?_
          refine x_iconst (v := 1) hc rfl dX7_most_42 ?_
          obtain ⟨x52, G51, r53, hf⟩ := bj2_ok hf
          refine x_callVr (As := [.int 1]) (p0 := 0) (v := (.int x52)) (T := TX7) hc (c_X7_found (kl K) (kV K) 1 G x52 G51 r53) mw_X7_found tw_314 (rfl : kd 0 = 7) (by decide) rfl rfl (Nat.le_of_ble_eq_true rfl) ⟨Nat.le_of_ble_eq_true rfl, Nat.le_of_ble_eq_true rfl⟩ dX7_most_43 rfl ?_
          cases hf
          exact x_iret hc rfl ho dX7_most_46
      · replace hf := if_p hf c_28
        refine x_iconst (v := (-1)) hc rfl dX7_most_31 ?_
        cases hf
        exact x_iret hc rfl ho dX7_most_32
def f_X7_off_l76_15 (a2 : Int32) (a3 : Int32) (a4 : Int32) : Nat → Int32 → Int32 → Int32 → G_ → Option (Int32 × Int32 × G_)
  | 0, _, _, _, _ => none
  | n15 + 1, v11, v12, v13, G14 =>
    if 120 < v13 then (
      some (v11, v12, G14))
    else (
      bj1 (f_X0_goByWay 17 a2 a3 G14) fun G16 =>
      bj1 (f_X0_become 28 17 G16) fun G18 =>
      bj2 (f_X0_greatestAtRest 28 30 G18) fun x21 G20 =>
      bj2 (
        if v11 = 0 then (
          some (v13, ab (x21 - a4)))
        else (
          if v12 ≤ ab (x21 - a4) then (
            some (v11, v12))
          else (
            some (v13, ab (x21 - a4))))) fun (x24 : Int32) (x25 : Int32) =>
      f_X7_off_l76_15 a2 a3 a4 n15 x24 x25 (v13 + 1) G20)
def f_X7_off (a1 : Int32) (a2 : Int32) (a3 : Int32) (a4 : Int32) (G : G_) : Option (Int32 × G_) :=
  bj1 (f_X7_slabAt a1 G) fun o1 =>
  mo o1 (
    some ((-1), G)) (fun p3 =>
    chk (kd p3 == 5) <|
    bj1 (f_X7_isWay a2 a3) fun x5 =>
    if x5 = 0 then (
      some ((-1), G))
    else (
      bj1 (f_X7_within a4 0 2000) fun x7 =>
      if x7 = 0 then (
        some ((-1), G))
      else (
        if G.1 p3 0 = 0 then (
          bj2 (f_X7_found 1 G) fun x33 G32 =>
          some (x33, G32))
        else (
          bj1 (f_X0_begin 17 p3 (G.1 p3 1) (G.1 p3 3) G) fun G9 =>
          bj3 (f_X7_off_l76_15 a2 a3 a4 FU 0 0 1 G9) fun x26 x27 G28 =>
          bj2 (f_X7_told x26 x27 G28) fun x30 G29 =>
          some (x30, G29)))))
set_option maxHeartbeats 4000000 in
set_option maxRecDepth 100000 in
theorem c_X7_off_l76_15 {K : CT} (a2 : Int32) (a3 : Int32) (a4 : Int32) (hc : Ok K cX7_off RX7 (Cond.code yX7_off cX7_off 10 (some .int) :: TB) (some .int) 4 94 10)  : ∀ (n15 : Nat) (v11 : Int32) (v12 : Int32) (v13 : Int32) (G14 : G_) (x26 : Int32) (x27 : Int32) (G28 : G_), f_X7_off_l76_15 a2 a3 a4 n15 v11 v12 v13 G14 = some (x26, x27, G28) → X K 146 [(0, .ref (kad K 0)), (6, .int x26), (7, .int x27)] [] G28 → X K 76 [(0, .ref (kad K 0)), (2, .int a2), (3, .int a3), (4, .int a4), (6, .int v11), (7, .int v12), (8, .int v13)] [] G14 := by
  intro n15
  induction n15 with
  | zero =>
    intro v11 v12 v13 G14 x26 x27 G28 hf hk
    cases hf
  | succ n15 ih =>
    intro v11 v12 v13 G14 x26 x27 G28 hf hk
    unfold f_X7_off_l76_15 at hf
    refine x_iload hc 6 dX7_off_76 rfl ?_
    refine x_bipush (v := 120) hc rfl dX7_off_78 ?_
    refine x_icmp_gt (tgt := 146) hc dX7_off_80 rfl (fun c_80 => ?_) (fun c_80 => ?_)
    · replace hf := if_p hf c_80
      cases hf
      exact x_sub [0, 4, 5] hk rfl
    · replace hf := if_n hf c_80
      refine x_aload_n hc 0 dX7_off_83 rfl rfl ?_
      refine x_getR (T := TX7) (p0 := 0) hc in_X7 rfl (by decide) (rfl : kd 0 = 7) 6 (by decide) tw_246 rfl rfl dX7_off_84 ?_
      refine x_iload_n hc 1 dX7_off_87 rfl rfl ?_
      refine x_iload_n hc 2 dX7_off_88 rfl rfl ?_
      obtain ⟨G16, r17, hf⟩ := bj1_ok hf
      refine x_callVv (As := [.int a2, .int a3]) (p0 := 17) (T := TX0) hc (c_X0_goByWay (kl K) (kV K) 17 a2 a3 G14 G16 r17) mw_X0_goByWay tw_799 (sh_X7_trial (rfl : kd 0 = 7)) (by decide) rfl rfl (Nat.le_of_ble_eq_true rfl) ⟨Nat.le_of_ble_eq_true rfl, Nat.le_of_ble_eq_true rfl⟩ dX7_off_89 rfl ?_
      refine x_aload_n hc 0 dX7_off_92 rfl rfl ?_
      refine x_getR (T := TX7) (p0 := 0) hc in_X7 rfl (by decide) (rfl : kd 0 = 7) 7 (by decide) tw_247 rfl rfl dX7_off_93 ?_
      refine x_aload_n hc 0 dX7_off_96 rfl rfl ?_
      refine x_getR (T := TX7) (p0 := 0) hc in_X7 rfl (by decide) (rfl : kd 0 = 7) 6 (by decide) tw_246 rfl rfl dX7_off_97 ?_
      obtain ⟨G18, r19, hf⟩ := bj1_ok hf
      refine x_callVv (As := [.ref (kad K 17)]) (p0 := 28) (T := TX0) hc (c_X0_become (kl K) (kV K) 28 17 G16 G18 r19) mw_X0_become tw_532 (sh_X7_second (rfl : kd 0 = 7)) (by decide) rfl rfl (Nat.le_of_ble_eq_true rfl) ⟨Nat.le_of_ble_eq_true rfl, Nat.le_of_ble_eq_true rfl⟩ dX7_off_100 rfl ?_
      refine x_aload_n hc 0 dX7_off_103 rfl rfl ?_
      refine x_getR (T := TX7) (p0 := 0) hc in_X7 rfl (by decide) (rfl : kd 0 = 7) 7 (by decide) tw_247 rfl rfl dX7_off_104 ?_
      refine x_bipush (v := 30) hc rfl dX7_off_107 ?_
      obtain ⟨x21, G20, r22, hf⟩ := bj2_ok hf
      refine x_callVr (As := [.int 30]) (p0 := 28) (v := (.int x21)) (T := TX0) hc (c_X0_greatestAtRest (kl K) (kV K) 28 30 G18 x21 G20 r22) mw_X0_greatestAtRest tw_804 (sh_X7_second (rfl : kd 0 = 7)) (by decide) rfl rfl (Nat.le_of_ble_eq_true rfl) ⟨Nat.le_of_ble_eq_true rfl, Nat.le_of_ble_eq_true rfl⟩ dX7_off_109 rfl ?_
      refine x_iload hc 3 dX7_off_112 rfl ?_
      refine x_isub hc dX7_off_114 ?_
      refine x_mabs hc tw_809 tw_810 tw_36 tw_811 (Nat.le_of_ble_eq_true rfl) (Nat.le_of_ble_eq_true rfl) dX7_off_115 ?_
      refine x_istore (L' := [(0, .ref (kad K 0)), (2, .int a2), (3, .int a3), (4, .int a4), (6, .int v11), (7, .int v12), (8, .int v13), (9, .int (ab (x21 - a4)))]) hc [1, 2, 3, 4, 5, 6, 7, 0] dX7_off_118 (by decide) rfl ?_
      refine x_iload hc 4 dX7_off_120 rfl ?_
      obtain ⟨x24, x25, hr, hf⟩ := bj2_ok hf
      have hj_140_23 : X K 140 [(0, .ref (kad K 0)), (2, .int a2), (3, .int a3), (4, .int a4), (6, .int x24), (7, .int x25), (8, .int v13)] [] G20 := by
        clear hr
        refine x_iinc (v := v13 + 1) (L' := [(0, .ref (kad K 0)), (2, .int a2), (3, .int a3), (4, .int a4), (6, .int x24), (7, .int x25), (8, .int (v13 + 1))]) hc 6 [1, 2, 3, 4, 5, 6, 0] dX7_off_140 rfl rfl (by decide) rfl ?_
        refine x_goto (tgt := 76) hc dX7_off_143 rfl ?_
        exact x_sub [0, 1, 2, 3, 4, 5, 6] (ih _ _ _ _ _ _ _ hf hk) rfl
      replace hf := hr
      clear hr
      refine x_if_eq (tgt := 132) hc dX7_off_122 rfl (fun c_122 => ?_) (fun c_122 => ?_)
      · replace hf := if_p hf c_122
        refine x_iload hc 6 dX7_off_132 rfl ?_
        refine x_istore (L' := [(0, .ref (kad K 0)), (2, .int a2), (3, .int a3), (4, .int a4), (6, .int v13), (8, .int v13), (9, .int (ab (x21 - a4)))]) hc [1, 2, 3, 4, 0, 6, 7] dX7_off_134 (by decide) rfl ?_
        refine x_iload hc 6 dX7_off_136 rfl ?_
        refine x_istore (L' := [(0, .ref (kad K 0)), (2, .int a2), (3, .int a3), (4, .int a4), (6, .int v13), (7, .int (ab (x21 - a4))), (8, .int v13)]) hc [1, 2, 3, 4, 5, 0, 6] dX7_off_138 (by decide) rfl ?_
        cases hf
        exact x_sub [0, 1, 2, 3, 4, 5, 6] hj_140_23 rfl
      · replace hf := if_n hf c_122
        refine x_iload hc 7 dX7_off_125 rfl ?_
        refine x_iload hc 5 dX7_off_127 rfl ?_
        refine x_icmp_ge (tgt := 140) hc dX7_off_129 rfl (fun c_129 => ?_) (fun c_129 => ?_)
        · replace hf := if_p hf c_129
          cases hf
          exact x_sub [0, 1, 2, 3, 4, 5, 6] hj_140_23 rfl
        · replace hf := if_n hf c_129
          refine x_iload hc 6 dX7_off_132 rfl ?_
          refine x_istore (L' := [(0, .ref (kad K 0)), (2, .int a2), (3, .int a3), (4, .int a4), (6, .int v13), (8, .int v13), (9, .int (ab (x21 - a4)))]) hc [1, 2, 3, 4, 0, 6, 7] dX7_off_134 (by decide) rfl ?_
          refine x_iload hc 6 dX7_off_136 rfl ?_
          refine x_istore (L' := [(0, .ref (kad K 0)), (2, .int a2), (3, .int a3), (4, .int a4), (6, .int v13), (7, .int (ab (x21 - a4))), (8, .int v13)]) hc [1, 2, 3, 4, 5, 0, 6] dX7_off_138 (by decide) rfl ?_
          cases hf
          exact x_sub [0, 1, 2, 3, 4, 5, 6] hj_140_23 rfl
set_option maxHeartbeats 4000000 in
set_option maxRecDepth 100000 in
theorem c_X7_off (l : Launch) (V : VT) (a1 : Int32) (a2 : Int32) (a3 : Int32) (a4 : Int32) (G : G_) (r : Int32) (G' : G_) (hf : f_X7_off a1 a2 a3 a4 G = some (r, G')) : MC l V yX7_off cX7_off 10 (some .int) 4 94 [.ref (V.2.2.1 0), .int a1, .int a2, .int a3, .int a4] G (some (.int r)) G' := by
  refine mc_of (by decide) (Nat.le_of_ble_eq_true rfl) (fun K hV ho hc hkl => ?_)
  subst hV
  replace hc : Ok K cX7_off RX7 (Cond.code yX7_off cX7_off 10 (some .int) :: TB) (some .int) 4 94 10 := hc
  replace ho : Rets K (some (.int r)) G' := ho
  show X K 0 [(0, .ref (kad K 0)), (1, .int a1), (2, .int a2), (3, .int a3), (4, .int a4)] [] G
  unfold f_X7_off at hf
  refine x_aload_n hc 0 dX7_off_0 rfl rfl ?_
  refine x_iload_n hc 1 dX7_off_1 rfl rfl ?_
  obtain ⟨o1, r2, hf⟩ := bj1_ok hf
  refine x_callVr (As := [.int a1]) (p0 := 0) (v := (rfo K o1)) (T := TX7) hc (c_X7_slabAt (kl K) (kV K) a1 G o1 r2) mw_X7_slabAt tw_382 (rfl : kd 0 = 7) (by decide) rfl rfl (Nat.le_of_ble_eq_true rfl) ⟨Nat.le_of_ble_eq_true rfl, Nat.le_of_ble_eq_true rfl⟩ dX7_off_2 rfl ?_
  refine x_astoreO (L' := [(0, .ref (kad K 0)), (2, .int a2), (3, .int a3), (4, .int a4), (5, rfo K o1)]) hc [1, 3, 4, 5, 0] dX7_off_5 (by decide) rfl ?_
  refine x_aloadO hc 4 dX7_off_7 rfl ?_
  cases o1 with
  | none =>
    replace hf := mo_n hf
    show X K 9 [(0, .ref (kad K 0)), (2, .int a2), (3, .int a3), (4, .int a4), (5, .null)] [.null] G
    refine x_ifnullN (tgt := 32) hc dX7_off_9 rfl ?_
    refine x_iconst (v := (-1)) hc rfl dX7_off_32 ?_
    cases hf
    exact x_iret hc rfl ho dX7_off_33
  | some p3 =>
    replace hf := mo_s hf
    obtain ⟨k4, hf⟩ := chk_ok hf
    show X K 9 [(0, .ref (kad K 0)), (2, .int a2), (3, .int a3), (4, .int a4), (5, .ref (kad K p3))] [.ref (kad K p3)] G
    refine x_ifnullR hc dX7_off_9 ?_
    refine x_iload_n hc 1 dX7_off_12 rfl rfl ?_
    refine x_iload_n hc 2 dX7_off_13 rfl rfl ?_
    obtain ⟨x5, r6, hf⟩ := bj1_ok hf
    refine x_callSr (As := [.int a2, .int a3]) (v := (.int x5)) hc (c_X7_isWay (kl K) (kV K) a2 a3 G x5 r6) mw_X7_isWay tw_766 rfl (Nat.le_of_ble_eq_true rfl) ⟨Nat.le_of_ble_eq_true rfl, Nat.le_of_ble_eq_true rfl⟩ dX7_off_14 rfl ?_
    refine x_if_eq (tgt := 32) hc dX7_off_17 rfl (fun c_17 => ?_) (fun c_17 => ?_)
    · replace hf := if_p hf c_17
      refine x_iconst (v := (-1)) hc rfl dX7_off_32 ?_
      cases hf
      exact x_iret hc rfl ho dX7_off_33
    · replace hf := if_n hf c_17
      refine x_iload hc 3 dX7_off_20 rfl ?_
      refine x_iconst (v := 0) hc rfl dX7_off_22 ?_
      refine x_sipush (v := 2000) hc rfl dX7_off_23 ?_
      obtain ⟨x7, r8, hf⟩ := bj1_ok hf
      refine x_callSr (As := [.int a4, .int 0, .int 2000]) (v := (.int x7)) hc (c_X7_within (kl K) (kV K) a4 0 2000 G x7 r8) mw_X7_within tw_401 rfl (Nat.le_of_ble_eq_true rfl) ⟨Nat.le_of_ble_eq_true rfl, Nat.le_of_ble_eq_true rfl⟩ dX7_off_26 rfl ?_
      refine x_if_ne (tgt := 34) hc dX7_off_29 rfl (fun c_29 => ?_) (fun c_29 => ?_)
      · replace hf := if_n hf c_29
        refine x_aload hc 4 dX7_off_34 rfl ?_
        refine x_getI (T := TX5) (p0 := p3) hc in_X5 rfl (by decide) (kdb k4) 0 (by decide) tw_169 rfl rfl dX7_off_36 ?_
        refine x_if_ne (tgt := 48) hc dX7_off_39 rfl (fun c_39 => ?_) (fun c_39 => ?_)
        · replace hf := if_n hf c_39
          refine x_iconst (v := 0) hc rfl dX7_off_48 ?_
          refine x_istore (L' := [(0, .ref (kad K 0)), (2, .int a2), (3, .int a3), (4, .int a4), (5, .ref (kad K p3)), (6, .int 0)]) hc [1, 2, 3, 4, 5, 0] dX7_off_49 (by decide) rfl ?_
          refine x_iconst (v := 0) hc rfl dX7_off_51 ?_
          refine x_istore (L' := [(0, .ref (kad K 0)), (2, .int a2), (3, .int a3), (4, .int a4), (5, .ref (kad K p3)), (6, .int 0), (7, .int 0)]) hc [1, 2, 3, 4, 5, 6, 0] dX7_off_52 (by decide) rfl ?_
          refine x_aload_n hc 0 dX7_off_54 rfl rfl ?_
          refine x_getR (T := TX7) (p0 := 0) hc in_X7 rfl (by decide) (rfl : kd 0 = 7) 6 (by decide) tw_246 rfl rfl dX7_off_55 ?_
          refine x_aload hc 4 dX7_off_58 rfl ?_
          refine x_aload hc 4 dX7_off_60 rfl ?_
          refine x_getI (T := TX5) (p0 := p3) hc in_X5 rfl (by decide) (kdb k4) 1 (by decide) tw_173 rfl rfl dX7_off_62 ?_
          refine x_aload hc 4 dX7_off_65 rfl ?_
          refine x_getI (T := TX5) (p0 := p3) hc in_X5 rfl (by decide) (kdb k4) 3 (by decide) tw_180 rfl rfl dX7_off_67 ?_
          obtain ⟨G9, r10, hf⟩ := bj1_ok hf
          refine x_callVv (As := [.ref (kad K p3), .int (G.1 p3 1), .int (G.1 p3 3)]) (p0 := 17) (T := TX0) hc (c_X0_begin (kl K) (kV K) 17 p3 (G.1 p3 1) (G.1 p3 3) G G9 r10) mw_X0_begin tw_386 (sh_X7_trial (rfl : kd 0 = 7)) (by decide) rfl rfl (Nat.le_of_ble_eq_true rfl) ⟨Nat.le_of_ble_eq_true rfl, Nat.le_of_ble_eq_true rfl⟩ dX7_off_70 rfl ?_
          refine x_iconst (v := 1) hc rfl dX7_off_73 ?_
          refine x_istore (L' := [(0, .ref (kad K 0)), (2, .int a2), (3, .int a3), (4, .int a4), (6, .int 0), (7, .int 0), (8, .int 1)]) hc [1, 2, 3, 4, 6, 7, 0] dX7_off_74 (by decide) rfl ?_
          obtain ⟨x26, x27, G28, hl_76, hf⟩ := bj3_ok hf
          have he_146_n15 : X K 146 [(0, .ref (kad K 0)), (6, .int x26), (7, .int x27)] [] G28 := by
            clear hl_76
            refine x_aload_n hc 0 dX7_off_146 rfl rfl ?_
            refine x_iload hc 1 dX7_off_147 rfl ?_
            refine x_iload hc 2 dX7_off_149 rfl ?_
            obtain ⟨x30, G29, r31, hf⟩ := bj2_ok hf
            refine x_callVr (As := [.int x26, .int x27]) (p0 := 0) (v := (.int x30)) (T := TX7) hc (c_X7_told (kl K) (kV K) x26 x27 G28 x30 G29 r31) mw_X7_told tw_457 (rfl : kd 0 = 7) (by decide) rfl rfl (Nat.le_of_ble_eq_true rfl) ⟨Nat.le_of_ble_eq_true rfl, Nat.le_of_ble_eq_true rfl⟩ dX7_off_151 rfl ?_
            cases hf
            exact x_iret hc rfl ho dX7_off_154
          exact x_sub [0, 1, 2, 3, 4, 5, 6] (c_X7_off_l76_15 a2 a3 a4 hc  FU 0 0 1 G9 x26 x27 G28 hl_76 he_146_n15) rfl
        · replace hf := if_p hf c_39
          refine x_aload_n hc 0 dX7_off_42 rfl rfl ?_
          refine x_iconst (v := 1) hc rfl dX7_off_43 ?_
          obtain ⟨x33, G32, r34, hf⟩ := bj2_ok hf
          refine x_callVr (As := [.int 1]) (p0 := 0) (v := (.int x33)) (T := TX7) hc (c_X7_found (kl K) (kV K) 1 G x33 G32 r34) mw_X7_found tw_314 (rfl : kd 0 = 7) (by decide) rfl rfl (Nat.le_of_ble_eq_true rfl) ⟨Nat.le_of_ble_eq_true rfl, Nat.le_of_ble_eq_true rfl⟩ dX7_off_44 rfl ?_
          cases hf
          exact x_iret hc rfl ho dX7_off_47
      · replace hf := if_p hf c_29
        refine x_iconst (v := (-1)) hc rfl dX7_off_32 ?_
        cases hf
        exact x_iret hc rfl ho dX7_off_33
def f_X7_digest_l6_3 (G : G_) : Nat → Int64 → Int32 → Option (Int64)
  | 0, _, _ => none
  | n3 + 1, v1, v2 =>
    if 7 < v2 then (
      some (v1))
    else (
      bj1 (f_X7_count v2 G) fun x4 =>
      f_X7_digest_l6_3 G n3 ((31 * v1) + x4.toInt64) (v2 + 1))
def f_X7_digest_l43_9 (G : G_) : Nat → Int64 → Int32 → Option (Int64)
  | 0, _, _ => none
  | n9 + 1, v7, v8 =>
    if 4 ≤ v8 then (
      some (v7))
    else (
      chk (inb v8 4) <|
      nm (rb 15 + rs 15 * ix v8) fun p11 =>
      chk (kd p11 == 5) <|
      bj1 (f_X5_digestOn p11 v7 G) fun w13 =>
      f_X7_digest_l43_9 G n9 w13 (v8 + 1))
def f_X7_digest_l90_18 (G : G_) : Nat → Int64 → Int32 → Option (Int64)
  | 0, _, _ => none
  | n18 + 1, v16, v17 =>
    if 4 ≤ v17 then (
      some (v16))
    else (
      chk (inb v17 4) <|
      nm (rb 13 + rs 13 * ix v17) fun p20 =>
      chk (kd p20 == 2) <|
      bj1 (f_X2_digestOn p20 v16 G) fun w22 =>
      f_X7_digest_l90_18 G n18 w22 (v17 + 1))
def f_X7_digest_l146_29 (G : G_) : Nat → Int64 → Int32 → Option (Int64)
  | 0, _, _ => none
  | n29 + 1, v27, v28 =>
    if 6 ≤ v28 then (
      some (v27))
    else (
      chk (inb v28 6) <|
      nm (rb 14 + rs 14 * ix v28) fun p31 =>
      chk (kd p31 == 4) <|
      bj1 (f_X4_digestOn p31 v27 G) fun w33 =>
      f_X7_digest_l146_29 G n29 w33 (v28 + 1))
def f_X7_digest_l193_38 (G : G_) : Nat → Int64 → Int32 → Option (Int64)
  | 0, _, _ => none
  | n38 + 1, v36, v37 =>
    if 4 ≤ v37 then (
      some (v36))
    else (
      chk (inb v37 4) <|
      nm (rb 16 + rs 16 * ix v37) fun p40 =>
      chk (kd p40 == 6) <|
      bj1 (f_X6_digestOn p40 v36 G) fun w42 =>
      f_X7_digest_l193_38 G n38 w42 (v37 + 1))
def f_X7_digest  (G : G_) : Option Int64 :=
  bj1 (f_X7_digest_l6_3 G FU 17 0) fun w6 =>
  bj1 (f_X7_digest_l43_9 G FU w6 0) fun w15 =>
  bj1 (f_X7_digest_l90_18 G FU w15 0) fun w24 =>
  bj1 (f_X0_digestOn 5 w24 G) fun w25 =>
  bj1 (f_X7_digest_l146_29 G FU w25 0) fun w35 =>
  bj1 (f_X7_digest_l193_38 G FU w35 0) fun w44 =>
  some w44
set_option maxHeartbeats 4000000 in
set_option maxRecDepth 100000 in
theorem c_X7_digest_l6_3 {K : CT} (G : G_) (hc : Ok K cX7_digest RX7 (Cond.code yX7_digest cX7_digest 7 (some .long) :: TB) (some .long) 4 90 7)  : ∀ (n3 : Nat) (v1 : Int64) (v2 : Int32) (w6 : Int64), f_X7_digest_l6_3 G n3 v1 v2 = some (w6) → X K 31 [(0, .ref (kad K 0)), (1, .long w6)] [] G → X K 6 [(0, .ref (kad K 0)), (1, .long v1), (3, .int v2)] [] G := by
  intro n3
  induction n3 with
  | zero =>
    intro v1 v2 w6 hf hk
    cases hf
  | succ n3 ih =>
    intro v1 v2 w6 hf hk
    unfold f_X7_digest_l6_3 at hf
    refine x_iload_n hc 2 dX7_digest_6 rfl rfl ?_
    refine x_bipush (v := 7) hc rfl dX7_digest_7 ?_
    refine x_icmp_gt (tgt := 31) hc dX7_digest_9 rfl (fun c_9 => ?_) (fun c_9 => ?_)
    · replace hf := if_p hf c_9
      cases hf
      exact x_sub [0, 1] hk rfl
    · replace hf := if_n hf c_9
      refine x_ldc2 (v := 31) hc dX7_digest_12 tw_615 ?_
      refine x_lload_n hc 1 dX7_digest_15 rfl rfl ?_
      refine x_lmul hc dX7_digest_16 ?_
      refine x_aload_n hc 0 dX7_digest_17 rfl rfl ?_
      refine x_iload_n hc 2 dX7_digest_18 rfl rfl ?_
      obtain ⟨x4, r5, hf⟩ := bj1_ok hf
      refine x_callVr (As := [.int v2]) (p0 := 0) (v := (.int x4)) (T := TX7) hc (c_X7_count (kl K) (kV K) v2 G x4 r5) mw_X7_count tw_616 (rfl : kd 0 = 7) (by decide) rfl rfl (Nat.le_of_ble_eq_true rfl) ⟨Nat.le_of_ble_eq_true rfl, Nat.le_of_ble_eq_true rfl⟩ dX7_digest_19 rfl ?_
      refine x_i2l hc dX7_digest_22 ?_
      refine x_ladd hc dX7_digest_23 ?_
      refine x_lstore_n (L' := [(0, .ref (kad K 0)), (1, .long ((31 * v1) + x4.toInt64)), (3, .int v2)]) hc [1, 0, 2] dX7_digest_24 rfl (by decide) rfl ?_
      refine x_iinc (v := v2 + 1) (L' := [(0, .ref (kad K 0)), (1, .long ((31 * v1) + x4.toInt64)), (3, .int (v2 + 1))]) hc 2 [1, 2, 0] dX7_digest_25 rfl rfl (by decide) rfl ?_
      refine x_goto (tgt := 6) hc dX7_digest_28 rfl ?_
      exact x_sub [0, 1, 2] (ih _ _ _ hf hk) rfl
set_option maxHeartbeats 4000000 in
set_option maxRecDepth 100000 in
theorem c_X7_digest_l43_9 {K : CT} (G : G_) (hc : Ok K cX7_digest RX7 (Cond.code yX7_digest cX7_digest 7 (some .long) :: TB) (some .long) 4 90 7)  : ∀ (n9 : Nat) (v7 : Int64) (v8 : Int32) (w15 : Int64), f_X7_digest_l43_9 G n9 v7 v8 = some (w15) → X K 78 [(0, .ref (kad K 0)), (1, .long w15)] [] G → X K 43 [(0, .ref (kad K 0)), (1, .long v7), (3, .ref (kad K 3)), (4, .int 4), (5, .int v8)] [] G := by
  intro n9
  induction n9 with
  | zero =>
    intro v7 v8 w15 hf hk
    cases hf
  | succ n9 ih =>
    intro v7 v8 w15 hf hk
    unfold f_X7_digest_l43_9 at hf
    refine x_iload hc 4 dX7_digest_43 rfl ?_
    refine x_iload hc 3 dX7_digest_45 rfl ?_
    refine x_icmp_ge (tgt := 78) hc dX7_digest_47 rfl (fun c_47 => ?_) (fun c_47 => ?_)
    · replace hf := if_p hf c_47
      cases hf
      exact x_sub [0, 1] hk rfl
    · replace hf := if_n hf c_47
      refine x_aload_n hc 2 dX7_digest_50 rfl rfl ?_
      refine x_iload hc 4 dX7_digest_51 rfl ?_
      obtain ⟨h10, hf⟩ := chk_ok hf
      refine x_aaload (p0 := 3) (C := "SlabTurn$Slab") hc (sh_X7_slabs (rfl : kd 0 = 7)).1 (by decide) (by decide) (fun _ => rfl) rfl (sh_X7_slabs (rfl : kd 0 = 7)).2 h10 dX7_digest_53 ?_
      refine x_nmp (fun p11 e_p11 => ?_)
      replace hf := nm_ok hf p11 e_p11
      obtain ⟨k12, hf⟩ := chk_ok hf
      refine x_astore (L' := [(0, .ref (kad K 0)), (1, .long v7), (3, .ref (kad K 3)), (4, .int 4), (5, .int v8), (6, .ref (kad K p11))]) hc [1, 2, 3, 4, 5, 0] dX7_digest_54 (by decide) rfl ?_
      refine x_aload hc 5 dX7_digest_56 rfl ?_
      refine x_ifnonnullR (tgt := 65) hc dX7_digest_58 rfl ?_
      refine x_aload hc 5 dX7_digest_65 rfl ?_
      refine x_lload_n hc 1 dX7_digest_67 rfl rfl ?_
      obtain ⟨w13, r14, hf⟩ := bj1_ok hf
      refine x_callVr (As := [.long v7]) (p0 := p11) (v := (.long w13)) (T := TX5) hc (c_X5_digestOn (kl K) (kV K) p11 v7 G w13 r14) mw_X5_digestOn tw_650 (kdb k12) (by decide) rfl rfl (Nat.le_of_ble_eq_true rfl) ⟨Nat.le_of_ble_eq_true rfl, Nat.le_of_ble_eq_true rfl⟩ dX7_digest_68 rfl ?_
      refine x_lstore_n (L' := [(0, .ref (kad K 0)), (1, .long w13), (3, .ref (kad K 3)), (4, .int 4), (5, .int v8)]) hc [1, 0, 2, 3, 4] dX7_digest_71 rfl (by decide) rfl ?_
      refine x_iinc (v := v8 + 1) (L' := [(0, .ref (kad K 0)), (1, .long w13), (3, .ref (kad K 3)), (4, .int 4), (5, .int (v8 + 1))]) hc 4 [1, 2, 3, 4, 0] dX7_digest_72 rfl rfl (by decide) rfl ?_
      refine x_goto (tgt := 43) hc dX7_digest_75 rfl ?_
      exact x_sub [0, 1, 2, 3, 4] (ih _ _ _ hf hk) rfl
set_option maxHeartbeats 4000000 in
set_option maxRecDepth 100000 in
theorem c_X7_digest_l90_18 {K : CT} (G : G_) (hc : Ok K cX7_digest RX7 (Cond.code yX7_digest cX7_digest 7 (some .long) :: TB) (some .long) 4 90 7)  : ∀ (n18 : Nat) (v16 : Int64) (v17 : Int32) (w24 : Int64), f_X7_digest_l90_18 G n18 v16 v17 = some (w24) → X K 125 [(0, .ref (kad K 0)), (1, .long w24)] [] G → X K 90 [(0, .ref (kad K 0)), (1, .long v16), (3, .ref (kad K 4)), (4, .int 4), (5, .int v17)] [] G := by
  intro n18
  induction n18 with
  | zero =>
    intro v16 v17 w24 hf hk
    cases hf
  | succ n18 ih =>
    intro v16 v17 w24 hf hk
    unfold f_X7_digest_l90_18 at hf
    refine x_iload hc 4 dX7_digest_90 rfl ?_
    refine x_iload hc 3 dX7_digest_92 rfl ?_
    refine x_icmp_ge (tgt := 125) hc dX7_digest_94 rfl (fun c_94 => ?_) (fun c_94 => ?_)
    · replace hf := if_p hf c_94
      cases hf
      exact x_sub [0, 1] hk rfl
    · replace hf := if_n hf c_94
      refine x_aload_n hc 2 dX7_digest_97 rfl rfl ?_
      refine x_iload hc 4 dX7_digest_98 rfl ?_
      obtain ⟨h19, hf⟩ := chk_ok hf
      refine x_aaload (p0 := 4) (C := "SlabTurn$Plan") hc (sh_X7_plans (rfl : kd 0 = 7)).1 (by decide) (by decide) (fun _ => rfl) rfl (sh_X7_plans (rfl : kd 0 = 7)).2 h19 dX7_digest_100 ?_
      refine x_nmp (fun p20 e_p20 => ?_)
      replace hf := nm_ok hf p20 e_p20
      obtain ⟨k21, hf⟩ := chk_ok hf
      refine x_astore (L' := [(0, .ref (kad K 0)), (1, .long v16), (3, .ref (kad K 4)), (4, .int 4), (5, .int v17), (6, .ref (kad K p20))]) hc [1, 2, 3, 4, 5, 0] dX7_digest_101 (by decide) rfl ?_
      refine x_aload hc 5 dX7_digest_103 rfl ?_
      refine x_ifnonnullR (tgt := 112) hc dX7_digest_105 rfl ?_
      refine x_aload hc 5 dX7_digest_112 rfl ?_
      refine x_lload_n hc 1 dX7_digest_114 rfl rfl ?_
      obtain ⟨w22, r23, hf⟩ := bj1_ok hf
      refine x_callVr (As := [.long v16]) (p0 := p20) (v := (.long w22)) (T := TX2) hc (c_X2_digestOn (kl K) (kV K) p20 v16 G w22 r23) mw_X2_digestOn tw_659 (kdb k21) (by decide) rfl rfl (Nat.le_of_ble_eq_true rfl) ⟨Nat.le_of_ble_eq_true rfl, Nat.le_of_ble_eq_true rfl⟩ dX7_digest_115 rfl ?_
      refine x_lstore_n (L' := [(0, .ref (kad K 0)), (1, .long w22), (3, .ref (kad K 4)), (4, .int 4), (5, .int v17)]) hc [1, 0, 2, 3, 4] dX7_digest_118 rfl (by decide) rfl ?_
      refine x_iinc (v := v17 + 1) (L' := [(0, .ref (kad K 0)), (1, .long w22), (3, .ref (kad K 4)), (4, .int 4), (5, .int (v17 + 1))]) hc 4 [1, 2, 3, 4, 0] dX7_digest_119 rfl rfl (by decide) rfl ?_
      refine x_goto (tgt := 90) hc dX7_digest_122 rfl ?_
      exact x_sub [0, 1, 2, 3, 4] (ih _ _ _ hf hk) rfl
set_option maxHeartbeats 4000000 in
set_option maxRecDepth 100000 in
theorem c_X7_digest_l146_29 {K : CT} (G : G_) (hc : Ok K cX7_digest RX7 (Cond.code yX7_digest cX7_digest 7 (some .long) :: TB) (some .long) 4 90 7)  : ∀ (n29 : Nat) (v27 : Int64) (v28 : Int32) (w35 : Int64), f_X7_digest_l146_29 G n29 v27 v28 = some (w35) → X K 181 [(0, .ref (kad K 0)), (1, .long w35)] [] G → X K 146 [(0, .ref (kad K 0)), (1, .long v27), (3, .ref (kad K 1)), (4, .int 6), (5, .int v28)] [] G := by
  intro n29
  induction n29 with
  | zero =>
    intro v27 v28 w35 hf hk
    cases hf
  | succ n29 ih =>
    intro v27 v28 w35 hf hk
    unfold f_X7_digest_l146_29 at hf
    refine x_iload hc 4 dX7_digest_146 rfl ?_
    refine x_iload hc 3 dX7_digest_148 rfl ?_
    refine x_icmp_ge (tgt := 181) hc dX7_digest_150 rfl (fun c_150 => ?_) (fun c_150 => ?_)
    · replace hf := if_p hf c_150
      cases hf
      exact x_sub [0, 1] hk rfl
    · replace hf := if_n hf c_150
      refine x_aload_n hc 2 dX7_digest_153 rfl rfl ?_
      refine x_iload hc 4 dX7_digest_154 rfl ?_
      obtain ⟨h30, hf⟩ := chk_ok hf
      refine x_aaload (p0 := 1) (C := "SlabTurn$Row") hc (sh_X7_rows (rfl : kd 0 = 7)).1 (by decide) (by decide) (fun _ => rfl) rfl (sh_X7_rows (rfl : kd 0 = 7)).2 h30 dX7_digest_156 ?_
      refine x_nmp (fun p31 e_p31 => ?_)
      replace hf := nm_ok hf p31 e_p31
      obtain ⟨k32, hf⟩ := chk_ok hf
      refine x_astore (L' := [(0, .ref (kad K 0)), (1, .long v27), (3, .ref (kad K 1)), (4, .int 6), (5, .int v28), (6, .ref (kad K p31))]) hc [1, 2, 3, 4, 5, 0] dX7_digest_157 (by decide) rfl ?_
      refine x_aload hc 5 dX7_digest_159 rfl ?_
      refine x_ifnonnullR (tgt := 168) hc dX7_digest_161 rfl ?_
      refine x_aload hc 5 dX7_digest_168 rfl ?_
      refine x_lload_n hc 1 dX7_digest_170 rfl rfl ?_
      obtain ⟨w33, r34, hf⟩ := bj1_ok hf
      refine x_callVr (As := [.long v27]) (p0 := p31) (v := (.long w33)) (T := TX4) hc (c_X4_digestOn (kl K) (kV K) p31 v27 G w33 r34) mw_X4_digestOn tw_675 (kdb k32) (by decide) rfl rfl (Nat.le_of_ble_eq_true rfl) ⟨Nat.le_of_ble_eq_true rfl, Nat.le_of_ble_eq_true rfl⟩ dX7_digest_171 rfl ?_
      refine x_lstore_n (L' := [(0, .ref (kad K 0)), (1, .long w33), (3, .ref (kad K 1)), (4, .int 6), (5, .int v28)]) hc [1, 0, 2, 3, 4] dX7_digest_174 rfl (by decide) rfl ?_
      refine x_iinc (v := v28 + 1) (L' := [(0, .ref (kad K 0)), (1, .long w33), (3, .ref (kad K 1)), (4, .int 6), (5, .int (v28 + 1))]) hc 4 [1, 2, 3, 4, 0] dX7_digest_175 rfl rfl (by decide) rfl ?_
      refine x_goto (tgt := 146) hc dX7_digest_178 rfl ?_
      exact x_sub [0, 1, 2, 3, 4] (ih _ _ _ hf hk) rfl
set_option maxHeartbeats 4000000 in
set_option maxRecDepth 100000 in
theorem c_X7_digest_l193_38 {K : CT} (G : G_) (hc : Ok K cX7_digest RX7 (Cond.code yX7_digest cX7_digest 7 (some .long) :: TB) (some .long) 4 90 7)  : ∀ (n38 : Nat) (v36 : Int64) (v37 : Int32) (w44 : Int64), f_X7_digest_l193_38 G n38 v36 v37 = some (w44) → X K 228 [(1, .long w44)] [] G → X K 193 [(1, .long v36), (3, .ref (kad K 2)), (4, .int 4), (5, .int v37)] [] G := by
  intro n38
  induction n38 with
  | zero =>
    intro v36 v37 w44 hf hk
    cases hf
  | succ n38 ih =>
    intro v36 v37 w44 hf hk
    unfold f_X7_digest_l193_38 at hf
    refine x_iload hc 3 dX7_digest_193 rfl ?_
    refine x_iload hc 2 dX7_digest_195 rfl ?_
    refine x_icmp_ge (tgt := 228) hc dX7_digest_197 rfl (fun c_197 => ?_) (fun c_197 => ?_)
    · replace hf := if_p hf c_197
      cases hf
      exact x_sub [0] hk rfl
    · replace hf := if_n hf c_197
      refine x_aload_n hc 1 dX7_digest_200 rfl rfl ?_
      refine x_iload hc 3 dX7_digest_201 rfl ?_
      obtain ⟨h39, hf⟩ := chk_ok hf
      refine x_aaload (p0 := 2) (C := "SlabTurn$Text") hc (sh_X7_texts (rfl : kd 0 = 7)).1 (by decide) (by decide) (fun _ => rfl) rfl (sh_X7_texts (rfl : kd 0 = 7)).2 h39 dX7_digest_203 ?_
      refine x_nmp (fun p40 e_p40 => ?_)
      replace hf := nm_ok hf p40 e_p40
      obtain ⟨k41, hf⟩ := chk_ok hf
      refine x_astore (L' := [(1, .long v36), (3, .ref (kad K 2)), (4, .int 4), (5, .int v37), (6, .ref (kad K p40))]) hc [1, 2, 3, 4, 0] dX7_digest_204 (by decide) rfl ?_
      refine x_aload hc 4 dX7_digest_206 rfl ?_
      refine x_ifnonnullR (tgt := 215) hc dX7_digest_208 rfl ?_
      refine x_aload hc 4 dX7_digest_215 rfl ?_
      refine x_lload_n hc 0 dX7_digest_217 rfl rfl ?_
      obtain ⟨w42, r43, hf⟩ := bj1_ok hf
      refine x_callVr (As := [.long v36]) (p0 := p40) (v := (.long w42)) (T := TX6) hc (c_X6_digestOn (kl K) (kV K) p40 v36 G w42 r43) mw_X6_digestOn tw_681 (kdb k41) (by decide) rfl rfl (Nat.le_of_ble_eq_true rfl) ⟨Nat.le_of_ble_eq_true rfl, Nat.le_of_ble_eq_true rfl⟩ dX7_digest_218 rfl ?_
      refine x_lstore_n (L' := [(1, .long w42), (3, .ref (kad K 2)), (4, .int 4), (5, .int v37)]) hc [0, 1, 2, 3] dX7_digest_221 rfl (by decide) rfl ?_
      refine x_iinc (v := v37 + 1) (L' := [(1, .long w42), (3, .ref (kad K 2)), (4, .int 4), (5, .int (v37 + 1))]) hc 3 [1, 2, 3, 0] dX7_digest_222 rfl rfl (by decide) rfl ?_
      refine x_goto (tgt := 193) hc dX7_digest_225 rfl ?_
      exact x_sub [0, 1, 2, 3] (ih _ _ _ hf hk) rfl
set_option maxHeartbeats 4000000 in
set_option maxRecDepth 100000 in
theorem c_X7_digest (l : Launch) (V : VT)  (G : G_) (r : Int64) (hf : f_X7_digest  G = some r) : MC l V yX7_digest cX7_digest 7 (some .long) 4 90 [.ref (V.2.2.1 0)] G (some (.long r)) G := by
  refine mc_of (by decide) (Nat.le_of_ble_eq_true rfl) (fun K hV ho hc hkl => ?_)
  subst hV
  replace hc : Ok K cX7_digest RX7 (Cond.code yX7_digest cX7_digest 7 (some .long) :: TB) (some .long) 4 90 7 := hc
  replace ho : Rets K (some (.long r)) G := ho
  show X K 0 [(0, .ref (kad K 0))] [] G
  unfold f_X7_digest at hf
  refine x_ldc2 (v := 17) hc dX7_digest_0 tw_614 ?_
  refine x_lstore_n (L' := [(0, .ref (kad K 0)), (1, .long 17)]) hc [1, 0] dX7_digest_3 rfl (by decide) rfl ?_
  refine x_iconst (v := 0) hc rfl dX7_digest_4 ?_
  refine x_istore_n (L' := [(0, .ref (kad K 0)), (1, .long 17), (3, .int 0)]) hc [1, 2, 0] dX7_digest_5 rfl (by decide) rfl ?_
  obtain ⟨w6, hl_6, hf⟩ := bj1_ok hf
  have he_31_n3 : X K 31 [(0, .ref (kad K 0)), (1, .long w6)] [] G := by
    clear hl_6
    refine x_aload_n hc 0 dX7_digest_31 rfl rfl ?_
    refine x_getR (T := TX7) (p0 := 0) hc in_X7 rfl (by decide) (rfl : kd 0 = 7) 2 (by decide) tw_242 rfl rfl dX7_digest_32 ?_
    refine x_astore_n (L' := [(0, .ref (kad K 0)), (1, .long w6), (3, .ref (kad K 3))]) hc [1, 2, 0] dX7_digest_35 rfl (by decide) rfl ?_
    refine x_aload_n hc 2 dX7_digest_36 rfl rfl ?_
    refine x_alenQ (p0 := 3) (v := 4) hc (sh_X7_slabs (rfl : kd 0 = 7)).1 (by decide) (by decide) (sh_X7_slabs (rfl : kd 0 = 7)).2 rfl dX7_digest_37 ?_
    refine x_istore (L' := [(0, .ref (kad K 0)), (1, .long w6), (3, .ref (kad K 3)), (4, .int 4)]) hc [1, 2, 3, 0] dX7_digest_38 (by decide) rfl ?_
    refine x_iconst (v := 0) hc rfl dX7_digest_40 ?_
    refine x_istore (L' := [(0, .ref (kad K 0)), (1, .long w6), (3, .ref (kad K 3)), (4, .int 4), (5, .int 0)]) hc [1, 2, 3, 4, 0] dX7_digest_41 (by decide) rfl ?_
    obtain ⟨w15, hl_43, hf⟩ := bj1_ok hf
    have he_78_n9 : X K 78 [(0, .ref (kad K 0)), (1, .long w15)] [] G := by
      clear hl_43
      refine x_aload_n hc 0 dX7_digest_78 rfl rfl ?_
      refine x_getR (T := TX7) (p0 := 0) hc in_X7 rfl (by decide) (rfl : kd 0 = 7) 3 (by decide) tw_243 rfl rfl dX7_digest_79 ?_
      refine x_astore_n (L' := [(0, .ref (kad K 0)), (1, .long w15), (3, .ref (kad K 4))]) hc [1, 2, 0] dX7_digest_82 rfl (by decide) rfl ?_
      refine x_aload_n hc 2 dX7_digest_83 rfl rfl ?_
      refine x_alenQ (p0 := 4) (v := 4) hc (sh_X7_plans (rfl : kd 0 = 7)).1 (by decide) (by decide) (sh_X7_plans (rfl : kd 0 = 7)).2 rfl dX7_digest_84 ?_
      refine x_istore (L' := [(0, .ref (kad K 0)), (1, .long w15), (3, .ref (kad K 4)), (4, .int 4)]) hc [1, 2, 3, 0] dX7_digest_85 (by decide) rfl ?_
      refine x_iconst (v := 0) hc rfl dX7_digest_87 ?_
      refine x_istore (L' := [(0, .ref (kad K 0)), (1, .long w15), (3, .ref (kad K 4)), (4, .int 4), (5, .int 0)]) hc [1, 2, 3, 4, 0] dX7_digest_88 (by decide) rfl ?_
      obtain ⟨w24, hl_90, hf⟩ := bj1_ok hf
      have he_125_n18 : X K 125 [(0, .ref (kad K 0)), (1, .long w24)] [] G := by
        clear hl_90
        refine x_aload_n hc 0 dX7_digest_125 rfl rfl ?_
        refine x_getR (T := TX7) (p0 := 0) hc in_X7 rfl (by decide) (rfl : kd 0 = 7) 4 (by decide) tw_244 rfl rfl dX7_digest_126 ?_
        refine x_lload_n hc 1 dX7_digest_129 rfl rfl ?_
        obtain ⟨w25, r26, hf⟩ := bj1_ok hf
        refine x_callVr (As := [.long w24]) (p0 := 5) (v := (.long w25)) (T := TX0) hc (c_X0_digestOn (kl K) (kV K) 5 w24 G w25 r26) mw_X0_digestOn tw_668 (sh_X7_dish (rfl : kd 0 = 7)) (by decide) rfl rfl (Nat.le_of_ble_eq_true rfl) ⟨Nat.le_of_ble_eq_true rfl, Nat.le_of_ble_eq_true rfl⟩ dX7_digest_130 rfl ?_
        refine x_lstore_n (L' := [(0, .ref (kad K 0)), (1, .long w25)]) hc [1, 0] dX7_digest_133 rfl (by decide) rfl ?_
        refine x_aload_n hc 0 dX7_digest_134 rfl rfl ?_
        refine x_getR (T := TX7) (p0 := 0) hc in_X7 rfl (by decide) (rfl : kd 0 = 7) 0 (by decide) tw_240 rfl rfl dX7_digest_135 ?_
        refine x_astore_n (L' := [(0, .ref (kad K 0)), (1, .long w25), (3, .ref (kad K 1))]) hc [1, 2, 0] dX7_digest_138 rfl (by decide) rfl ?_
        refine x_aload_n hc 2 dX7_digest_139 rfl rfl ?_
        refine x_alenQ (p0 := 1) (v := 6) hc (sh_X7_rows (rfl : kd 0 = 7)).1 (by decide) (by decide) (sh_X7_rows (rfl : kd 0 = 7)).2 rfl dX7_digest_140 ?_
        refine x_istore (L' := [(0, .ref (kad K 0)), (1, .long w25), (3, .ref (kad K 1)), (4, .int 6)]) hc [1, 2, 3, 0] dX7_digest_141 (by decide) rfl ?_
        refine x_iconst (v := 0) hc rfl dX7_digest_143 ?_
        refine x_istore (L' := [(0, .ref (kad K 0)), (1, .long w25), (3, .ref (kad K 1)), (4, .int 6), (5, .int 0)]) hc [1, 2, 3, 4, 0] dX7_digest_144 (by decide) rfl ?_
        obtain ⟨w35, hl_146, hf⟩ := bj1_ok hf
        have he_181_n29 : X K 181 [(0, .ref (kad K 0)), (1, .long w35)] [] G := by
          clear hl_146
          refine x_aload_n hc 0 dX7_digest_181 rfl rfl ?_
          refine x_getR (T := TX7) (p0 := 0) hc in_X7 rfl (by decide) (rfl : kd 0 = 7) 1 (by decide) tw_241 rfl rfl dX7_digest_182 ?_
          refine x_astore_n (L' := [(1, .long w35), (3, .ref (kad K 2))]) hc [2, 0] dX7_digest_185 rfl (by decide) rfl ?_
          refine x_aload_n hc 1 dX7_digest_186 rfl rfl ?_
          refine x_alenQ (p0 := 2) (v := 4) hc (sh_X7_texts (rfl : kd 0 = 7)).1 (by decide) (by decide) (sh_X7_texts (rfl : kd 0 = 7)).2 rfl dX7_digest_187 ?_
          refine x_istore (L' := [(1, .long w35), (3, .ref (kad K 2)), (4, .int 4)]) hc [1, 2, 0] dX7_digest_188 (by decide) rfl ?_
          refine x_iconst (v := 0) hc rfl dX7_digest_190 ?_
          refine x_istore (L' := [(1, .long w35), (3, .ref (kad K 2)), (4, .int 4), (5, .int 0)]) hc [1, 2, 3, 0] dX7_digest_191 (by decide) rfl ?_
          obtain ⟨w44, hl_193, hf⟩ := bj1_ok hf
          have he_228_n38 : X K 228 [(1, .long w44)] [] G := by
            clear hl_193
            refine x_lload_n hc 0 dX7_digest_228 rfl rfl ?_
            cases hf
            exact x_lret hc rfl ho dX7_digest_229
          exact x_sub [0, 1, 2, 3] (c_X7_digest_l193_38 G hc  FU w35 0 w44 hl_193 he_228_n38) rfl
        exact x_sub [0, 1, 2, 3, 4] (c_X7_digest_l146_29 G hc  FU w25 0 w35 hl_146 he_181_n29) rfl
      exact x_sub [0, 1, 2, 3, 4] (c_X7_digest_l90_18 G hc  FU w15 0 w24 hl_90 he_125_n18) rfl
    exact x_sub [0, 1, 2, 3, 4] (c_X7_digest_l43_9 G hc  FU w6 0 w15 hl_43 he_78_n9) rfl
  exact x_sub [0, 1, 2] (c_X7_digest_l6_3 G hc  FU 17 0 w6 hl_6 he_31_n3) rfl
def f_X7_fault (a1 : Int32) (a2 : Int32) (G : G_) : Option (Int32 × G_) :=
  bj1 (f_X7_textAt a1 G) fun o1 =>
  mo o1 (
    some ((-1), G)) (fun p3 =>
    chk (kd p3 == 6) <|
    bj1 (f_X6_there p3 G) fun x5 =>
    if x5 = 0 then (
      bj2 (f_X7_found 1 G) fun x13 G12 =>
      some (x13, G12))
    else (
      if a2 = 0 then (
        bj2 (f_X3_readSlab p3 40 G) fun x8 G7 =>
        some (G7.1 39 1, G7))
      else (
        bj1 (f_X3_readPlan p3 41 G) fun G10 =>
        some (G10.1 39 1, G10))))
set_option maxHeartbeats 4000000 in
set_option maxRecDepth 100000 in
theorem c_X7_fault (l : Launch) (V : VT) (a1 : Int32) (a2 : Int32) (G : G_) (r : Int32) (G' : G_) (hf : f_X7_fault a1 a2 G = some (r, G')) : MC l V yX7_fault cX7_fault 4 (some .int) 5 115 [.ref (V.2.2.1 0), .int a1, .int a2] G (some (.int r)) G' := by
  refine mc_of (by decide) (Nat.le_of_ble_eq_true rfl) (fun K hV ho hc hkl => ?_)
  subst hV
  replace hc : Ok K cX7_fault RX7 (Cond.code yX7_fault cX7_fault 4 (some .int) :: TB) (some .int) 5 115 4 := hc
  replace ho : Rets K (some (.int r)) G' := ho
  show X K 0 [(0, .ref (kad K 0)), (1, .int a1), (2, .int a2)] [] G
  unfold f_X7_fault at hf
  refine x_aload_n hc 0 dX7_fault_0 rfl rfl ?_
  refine x_iload_n hc 1 dX7_fault_1 rfl rfl ?_
  obtain ⟨o1, r2, hf⟩ := bj1_ok hf
  refine x_callVr (As := [.int a1]) (p0 := 0) (v := (rfo K o1)) (T := TX7) hc (c_X7_textAt (kl K) (kV K) a1 G o1 r2) mw_X7_textAt tw_306 (rfl : kd 0 = 7) (by decide) rfl rfl (Nat.le_of_ble_eq_true rfl) ⟨Nat.le_of_ble_eq_true rfl, Nat.le_of_ble_eq_true rfl⟩ dX7_fault_2 rfl ?_
  refine x_astore_nO (L' := [(0, .ref (kad K 0)), (2, .int a2), (3, rfo K o1)]) hc [1, 3, 0] dX7_fault_5 rfl (by decide) rfl ?_
  refine x_aload_nO hc 2 dX7_fault_6 rfl rfl ?_
  cases o1 with
  | none =>
    replace hf := mo_n hf
    show X K 7 [(0, .ref (kad K 0)), (2, .int a2), (3, .null)] [.null] G
    refine x_ifnonnullN hc dX7_fault_7 ?_
    refine x_iconst (v := (-1)) hc rfl dX7_fault_10 ?_
    cases hf
    exact x_iret hc rfl ho dX7_fault_11
  | some p3 =>
    replace hf := mo_s hf
    obtain ⟨k4, hf⟩ := chk_ok hf
    show X K 7 [(0, .ref (kad K 0)), (2, .int a2), (3, .ref (kad K p3))] [.ref (kad K p3)] G
    refine x_ifnonnullR (tgt := 12) hc dX7_fault_7 rfl ?_
    refine x_aload_n hc 2 dX7_fault_12 rfl rfl ?_
    obtain ⟨x5, r6, hf⟩ := bj1_ok hf
    refine x_callVr (As := []) (p0 := p3) (v := (.int x5)) (T := TX6) hc (c_X6_there (kl K) (kV K) p3 G x5 r6) mw_X6_there tw_310 (kdb k4) (by decide) rfl rfl (Nat.le_of_ble_eq_true rfl) ⟨Nat.le_of_ble_eq_true rfl, Nat.le_of_ble_eq_true rfl⟩ dX7_fault_13 rfl ?_
    refine x_if_ne (tgt := 25) hc dX7_fault_16 rfl (fun c_16 => ?_) (fun c_16 => ?_)
    · replace hf := if_n hf c_16
      refine x_iload_n hc 1 dX7_fault_25 rfl rfl ?_
      refine x_if_eq (tgt := 44) hc dX7_fault_26 rfl (fun c_26 => ?_) (fun c_26 => ?_)
      · replace hf := if_p hf c_26
        refine x_aload_n hc 0 dX7_fault_44 rfl rfl ?_
        refine x_getR (T := TX7) (p0 := 0) hc in_X7 rfl (by decide) (rfl : kd 0 = 7) 8 (by decide) tw_248 rfl rfl dX7_fault_45 ?_
        refine x_aload_n hc 2 dX7_fault_48 rfl rfl ?_
        refine x_aload_n hc 0 dX7_fault_49 rfl rfl ?_
        refine x_getR (T := TX7) (p0 := 0) hc in_X7 rfl (by decide) (rfl : kd 0 = 7) 9 (by decide) tw_249 rfl rfl dX7_fault_50 ?_
        obtain ⟨x8, G7, r9, hf⟩ := bj2_ok hf
        refine x_callVr (As := [.ref (kad K p3), .ref (kad K 40)]) (p0 := 39) (v := (.int x8)) (T := TX3) hc (c_X3_readSlab (kl K) (kV K) p3 40 G x8 G7 r9) mw_X3_readSlab tw_727 (sh_X7_reader (rfl : kd 0 = 7)) (by decide) rfl rfl (Nat.le_of_ble_eq_true rfl) ⟨Nat.le_of_ble_eq_true rfl, Nat.le_of_ble_eq_true rfl⟩ dX7_fault_53 rfl ?_
        refine x_pop hc rfl dX7_fault_56 ?_
        refine x_aload_n hc 0 dX7_fault_57 rfl rfl ?_
        refine x_getR (T := TX7) (p0 := 0) hc in_X7 rfl (by decide) (rfl : kd 0 = 7) 8 (by decide) tw_248 rfl rfl dX7_fault_58 ?_
        refine x_getI (T := TX3) (p0 := 39) hc in_X3 rfl (by decide) (sh_X7_reader (rfl : kd 0 = 7)) 1 (by decide) tw_157 rfl rfl dX7_fault_61 ?_
        cases hf
        exact x_iret hc rfl ho dX7_fault_64
      · replace hf := if_n hf c_26
        refine x_aload_n hc 0 dX7_fault_29 rfl rfl ?_
        refine x_getR (T := TX7) (p0 := 0) hc in_X7 rfl (by decide) (rfl : kd 0 = 7) 8 (by decide) tw_248 rfl rfl dX7_fault_30 ?_
        refine x_aload_n hc 2 dX7_fault_33 rfl rfl ?_
        refine x_aload_n hc 0 dX7_fault_34 rfl rfl ?_
        refine x_getR (T := TX7) (p0 := 0) hc in_X7 rfl (by decide) (rfl : kd 0 = 7) 10 (by decide) tw_250 rfl rfl dX7_fault_35 ?_
        obtain ⟨G10, r11, hf⟩ := bj1_ok hf
        refine x_callVv (As := [.ref (kad K p3), .ref (kad K 41)]) (p0 := 39) (T := TX3) hc (c_X3_readPlan (kl K) (kV K) p3 41 G G10 r11) mw_X3_readPlan tw_318 (sh_X7_reader (rfl : kd 0 = 7)) (by decide) rfl rfl (Nat.le_of_ble_eq_true rfl) ⟨Nat.le_of_ble_eq_true rfl, Nat.le_of_ble_eq_true rfl⟩ dX7_fault_38 rfl ?_
        refine x_goto (tgt := 57) hc dX7_fault_41 rfl ?_
        refine x_aload_n hc 0 dX7_fault_57 rfl rfl ?_
        refine x_getR (T := TX7) (p0 := 0) hc in_X7 rfl (by decide) (rfl : kd 0 = 7) 8 (by decide) tw_248 rfl rfl dX7_fault_58 ?_
        refine x_getI (T := TX3) (p0 := 39) hc in_X3 rfl (by decide) (sh_X7_reader (rfl : kd 0 = 7)) 1 (by decide) tw_157 rfl rfl dX7_fault_61 ?_
        cases hf
        exact x_iret hc rfl ho dX7_fault_64
    · replace hf := if_p hf c_16
      refine x_aload_n hc 0 dX7_fault_19 rfl rfl ?_
      refine x_iconst (v := 1) hc rfl dX7_fault_20 ?_
      obtain ⟨x13, G12, r14, hf⟩ := bj2_ok hf
      refine x_callVr (As := [.int 1]) (p0 := 0) (v := (.int x13)) (T := TX7) hc (c_X7_found (kl K) (kV K) 1 G x13 G12 r14) mw_X7_found tw_314 (rfl : kd 0 = 7) (by decide) rfl rfl (Nat.le_of_ble_eq_true rfl) ⟨Nat.le_of_ble_eq_true rfl, Nat.le_of_ble_eq_true rfl⟩ dX7_fault_21 rfl ?_
      cases hf
      exact x_iret hc rfl ho dX7_fault_24
def f_X7_slab (a1 : Int32) (a2 : Int32) (G : G_) : Option (Int32 × G_) :=
  bj1 (f_X7_slabAt a1 G) fun o1 =>
  bj1 (f_X7_textAt a2 G) fun o3 =>
  mo o1 (
    some ((-1), G)) (fun p5 =>
    chk (kd p5 == 5) <|
    mo o3 (
      some ((-1), G)) (fun p7 =>
      chk (kd p7 == 6) <|
      bj1 (f_X6_there p7 G) fun x9 =>
      if x9 = 0 then (
        bj2 (f_X7_found 1 G) fun x17 G16 =>
        some (x17, G16))
      else (
        bj2 (f_X3_readSlab p7 40 G) fun x12 G11 =>
        if G11.1 39 1 = (-9) then (
          bj1 (f_X5_become p5 40 G11) fun G14 =>
          some (x12, G14))
        else (
          some ((-4), G11)))))
set_option maxHeartbeats 4000000 in
set_option maxRecDepth 100000 in
theorem c_X7_slab (l : Launch) (V : VT) (a1 : Int32) (a2 : Int32) (G : G_) (r : Int32) (G' : G_) (hf : f_X7_slab a1 a2 G = some (r, G')) : MC l V yX7_slab cX7_slab 6 (some .int) 5 113 [.ref (V.2.2.1 0), .int a1, .int a2] G (some (.int r)) G' := by
  refine mc_of (by decide) (Nat.le_of_ble_eq_true rfl) (fun K hV ho hc hkl => ?_)
  subst hV
  replace hc : Ok K cX7_slab RX7 (Cond.code yX7_slab cX7_slab 6 (some .int) :: TB) (some .int) 5 113 6 := hc
  replace ho : Rets K (some (.int r)) G' := ho
  show X K 0 [(0, .ref (kad K 0)), (1, .int a1), (2, .int a2)] [] G
  unfold f_X7_slab at hf
  refine x_aload_n hc 0 dX7_slab_0 rfl rfl ?_
  refine x_iload_n hc 1 dX7_slab_1 rfl rfl ?_
  obtain ⟨o1, r2, hf⟩ := bj1_ok hf
  refine x_callVr (As := [.int a1]) (p0 := 0) (v := (rfo K o1)) (T := TX7) hc (c_X7_slabAt (kl K) (kV K) a1 G o1 r2) mw_X7_slabAt tw_382 (rfl : kd 0 = 7) (by decide) rfl rfl (Nat.le_of_ble_eq_true rfl) ⟨Nat.le_of_ble_eq_true rfl, Nat.le_of_ble_eq_true rfl⟩ dX7_slab_2 rfl ?_
  refine x_astore_nO (L' := [(0, .ref (kad K 0)), (2, .int a2), (3, rfo K o1)]) hc [1, 3, 0] dX7_slab_5 rfl (by decide) rfl ?_
  refine x_aload_n hc 0 dX7_slab_6 rfl rfl ?_
  refine x_iload_n hc 1 dX7_slab_7 rfl rfl ?_
  obtain ⟨o3, r4, hf⟩ := bj1_ok hf
  refine x_callVr (As := [.int a2]) (p0 := 0) (v := (rfo K o3)) (T := TX7) hc (c_X7_textAt (kl K) (kV K) a2 G o3 r4) mw_X7_textAt tw_306 (rfl : kd 0 = 7) (by decide) rfl rfl (Nat.le_of_ble_eq_true rfl) ⟨Nat.le_of_ble_eq_true rfl, Nat.le_of_ble_eq_true rfl⟩ dX7_slab_8 rfl ?_
  refine x_astoreO (L' := [(0, .ref (kad K 0)), (3, rfo K o1), (4, rfo K o3)]) hc [1, 3, 0] dX7_slab_11 (by decide) (by cases o1 <;> rfl) ?_
  refine x_aload_nO hc 1 dX7_slab_13 rfl rfl ?_
  cases o1 with
  | none =>
    replace hf := mo_n hf
    show X K 14 [(0, .ref (kad K 0)), (3, .null), (4, rfo K o3)] [.null] G
    refine x_ifnullN (tgt := 22) hc dX7_slab_14 rfl ?_
    refine x_iconst (v := (-1)) hc rfl dX7_slab_22 ?_
    cases hf
    exact x_iret hc rfl ho dX7_slab_23
  | some p5 =>
    replace hf := mo_s hf
    obtain ⟨k6, hf⟩ := chk_ok hf
    show X K 14 [(0, .ref (kad K 0)), (3, .ref (kad K p5)), (4, rfo K o3)] [.ref (kad K p5)] G
    refine x_ifnullR hc dX7_slab_14 ?_
    refine x_aloadO hc 2 dX7_slab_17 rfl ?_
    cases o3 with
    | none =>
      replace hf := mo_n hf
      show X K 19 [(0, .ref (kad K 0)), (3, .ref (kad K p5)), (4, .null)] [.null] G
      refine x_ifnonnullN hc dX7_slab_19 ?_
      refine x_iconst (v := (-1)) hc rfl dX7_slab_22 ?_
      cases hf
      exact x_iret hc rfl ho dX7_slab_23
    | some p7 =>
      replace hf := mo_s hf
      obtain ⟨k8, hf⟩ := chk_ok hf
      show X K 19 [(0, .ref (kad K 0)), (3, .ref (kad K p5)), (4, .ref (kad K p7))] [.ref (kad K p7)] G
      refine x_ifnonnullR (tgt := 24) hc dX7_slab_19 rfl ?_
      refine x_aload hc 2 dX7_slab_24 rfl ?_
      obtain ⟨x9, r10, hf⟩ := bj1_ok hf
      refine x_callVr (As := []) (p0 := p7) (v := (.int x9)) (T := TX6) hc (c_X6_there (kl K) (kV K) p7 G x9 r10) mw_X6_there tw_310 (kdb k8) (by decide) rfl rfl (Nat.le_of_ble_eq_true rfl) ⟨Nat.le_of_ble_eq_true rfl, Nat.le_of_ble_eq_true rfl⟩ dX7_slab_26 rfl ?_
      refine x_if_ne (tgt := 38) hc dX7_slab_29 rfl (fun c_29 => ?_) (fun c_29 => ?_)
      · replace hf := if_n hf c_29
        refine x_aload_n hc 0 dX7_slab_38 rfl rfl ?_
        refine x_getR (T := TX7) (p0 := 0) hc in_X7 rfl (by decide) (rfl : kd 0 = 7) 8 (by decide) tw_248 rfl rfl dX7_slab_39 ?_
        refine x_aload hc 2 dX7_slab_42 rfl ?_
        refine x_aload_n hc 0 dX7_slab_44 rfl rfl ?_
        refine x_getR (T := TX7) (p0 := 0) hc in_X7 rfl (by decide) (rfl : kd 0 = 7) 9 (by decide) tw_249 rfl rfl dX7_slab_45 ?_
        obtain ⟨x12, G11, r13, hf⟩ := bj2_ok hf
        refine x_callVr (As := [.ref (kad K p7), .ref (kad K 40)]) (p0 := 39) (v := (.int x12)) (T := TX3) hc (c_X3_readSlab (kl K) (kV K) p7 40 G x12 G11 r13) mw_X3_readSlab tw_727 (sh_X7_reader (rfl : kd 0 = 7)) (by decide) rfl rfl (Nat.le_of_ble_eq_true rfl) ⟨Nat.le_of_ble_eq_true rfl, Nat.le_of_ble_eq_true rfl⟩ dX7_slab_48 rfl ?_
        refine x_istore (L' := [(0, .ref (kad K 0)), (3, .ref (kad K p5)), (5, .int x12)]) hc [1, 2, 0] dX7_slab_51 (by decide) rfl ?_
        refine x_aload_n hc 0 dX7_slab_53 rfl rfl ?_
        refine x_getR (T := TX7) (p0 := 0) hc in_X7 rfl (by decide) (rfl : kd 0 = 7) 8 (by decide) tw_248 rfl rfl dX7_slab_54 ?_
        refine x_getI (T := TX3) (p0 := 39) hc in_X3 rfl (by decide) (sh_X7_reader (rfl : kd 0 = 7)) 1 (by decide) tw_157 rfl rfl dX7_slab_57 ?_
        refine x_bipush (v := (-9)) hc rfl dX7_slab_60 ?_
        refine x_icmp_eq (tgt := 68) hc dX7_slab_62 rfl (fun c_62 => ?_) (fun c_62 => ?_)
        · replace hf := if_p hf c_62
          refine x_aload_n hc 1 dX7_slab_68 rfl rfl ?_
          refine x_aload_n hc 0 dX7_slab_69 rfl rfl ?_
          refine x_getR (T := TX7) (p0 := 0) hc in_X7 rfl (by decide) (rfl : kd 0 = 7) 9 (by decide) tw_249 rfl rfl dX7_slab_70 ?_
          obtain ⟨G14, r15, hf⟩ := bj1_ok hf
          refine x_callVv (As := [.ref (kad K 40)]) (p0 := p5) (T := TX5) hc (c_X5_become (kl K) (kV K) p5 40 G11 G14 r15) mw_X5_become tw_743 (kdb k6) (by decide) rfl rfl (Nat.le_of_ble_eq_true rfl) ⟨Nat.le_of_ble_eq_true rfl, Nat.le_of_ble_eq_true rfl⟩ dX7_slab_73 rfl ?_
          refine x_iload hc 2 dX7_slab_76 rfl ?_
          cases hf
          exact x_iret hc rfl ho dX7_slab_78
        · replace hf := if_n hf c_62
          refine x_bipush (v := (-4)) hc rfl dX7_slab_65 ?_
          cases hf
          exact x_iret hc rfl ho dX7_slab_67
      · replace hf := if_p hf c_29
        refine x_aload_n hc 0 dX7_slab_32 rfl rfl ?_
        refine x_iconst (v := 1) hc rfl dX7_slab_33 ?_
        obtain ⟨x17, G16, r18, hf⟩ := bj2_ok hf
        refine x_callVr (As := [.int 1]) (p0 := 0) (v := (.int x17)) (T := TX7) hc (c_X7_found (kl K) (kV K) 1 G x17 G16 r18) mw_X7_found tw_314 (rfl : kd 0 = 7) (by decide) rfl rfl (Nat.le_of_ble_eq_true rfl) ⟨Nat.le_of_ble_eq_true rfl, Nat.le_of_ble_eq_true rfl⟩ dX7_slab_34 rfl ?_
        cases hf
        exact x_iret hc rfl ho dX7_slab_37
def f_X7_plan (a1 : Int32) (a2 : Int32) (G : G_) : Option (Int32 × G_) :=
  bj1 (f_X7_planAt a1 G) fun o1 =>
  bj1 (f_X7_textAt a2 G) fun o3 =>
  mo o1 (
    some ((-1), G)) (fun p5 =>
    chk (kd p5 == 2) <|
    mo o3 (
      some ((-1), G)) (fun p7 =>
      chk (kd p7 == 6) <|
      bj1 (f_X6_there p7 G) fun x9 =>
      if x9 = 0 then (
        bj2 (f_X7_found 1 G) fun x16 G15 =>
        some (x16, G15))
      else (
        bj1 (f_X3_readPlan p7 41 G) fun G11 =>
        if G11.1 39 1 = (-9) then (
          bj1 (f_X2_become p5 41 G11) fun G13 =>
          some (G13.1 p5 4, G13))
        else (
          some ((-4), G11)))))
set_option maxHeartbeats 4000000 in
set_option maxRecDepth 100000 in
theorem c_X7_plan (l : Launch) (V : VT) (a1 : Int32) (a2 : Int32) (G : G_) (r : Int32) (G' : G_) (hf : f_X7_plan a1 a2 G = some (r, G')) : MC l V yX7_plan cX7_plan 5 (some .int) 5 115 [.ref (V.2.2.1 0), .int a1, .int a2] G (some (.int r)) G' := by
  refine mc_of (by decide) (Nat.le_of_ble_eq_true rfl) (fun K hV ho hc hkl => ?_)
  subst hV
  replace hc : Ok K cX7_plan RX7 (Cond.code yX7_plan cX7_plan 5 (some .int) :: TB) (some .int) 5 115 5 := hc
  replace ho : Rets K (some (.int r)) G' := ho
  show X K 0 [(0, .ref (kad K 0)), (1, .int a1), (2, .int a2)] [] G
  unfold f_X7_plan at hf
  refine x_aload_n hc 0 dX7_plan_0 rfl rfl ?_
  refine x_iload_n hc 1 dX7_plan_1 rfl rfl ?_
  obtain ⟨o1, r2, hf⟩ := bj1_ok hf
  refine x_callVr (As := [.int a1]) (p0 := 0) (v := (rfo K o1)) (T := TX7) hc (c_X7_planAt (kl K) (kV K) a1 G o1 r2) mw_X7_planAt tw_302 (rfl : kd 0 = 7) (by decide) rfl rfl (Nat.le_of_ble_eq_true rfl) ⟨Nat.le_of_ble_eq_true rfl, Nat.le_of_ble_eq_true rfl⟩ dX7_plan_2 rfl ?_
  refine x_astore_nO (L' := [(0, .ref (kad K 0)), (2, .int a2), (3, rfo K o1)]) hc [1, 3, 0] dX7_plan_5 rfl (by decide) rfl ?_
  refine x_aload_n hc 0 dX7_plan_6 rfl rfl ?_
  refine x_iload_n hc 1 dX7_plan_7 rfl rfl ?_
  obtain ⟨o3, r4, hf⟩ := bj1_ok hf
  refine x_callVr (As := [.int a2]) (p0 := 0) (v := (rfo K o3)) (T := TX7) hc (c_X7_textAt (kl K) (kV K) a2 G o3 r4) mw_X7_textAt tw_306 (rfl : kd 0 = 7) (by decide) rfl rfl (Nat.le_of_ble_eq_true rfl) ⟨Nat.le_of_ble_eq_true rfl, Nat.le_of_ble_eq_true rfl⟩ dX7_plan_8 rfl ?_
  refine x_astoreO (L' := [(0, .ref (kad K 0)), (3, rfo K o1), (4, rfo K o3)]) hc [1, 3, 0] dX7_plan_11 (by decide) (by cases o1 <;> rfl) ?_
  refine x_aload_nO hc 1 dX7_plan_13 rfl rfl ?_
  cases o1 with
  | none =>
    replace hf := mo_n hf
    show X K 14 [(0, .ref (kad K 0)), (3, .null), (4, rfo K o3)] [.null] G
    refine x_ifnullN (tgt := 22) hc dX7_plan_14 rfl ?_
    refine x_iconst (v := (-1)) hc rfl dX7_plan_22 ?_
    cases hf
    exact x_iret hc rfl ho dX7_plan_23
  | some p5 =>
    replace hf := mo_s hf
    obtain ⟨k6, hf⟩ := chk_ok hf
    show X K 14 [(0, .ref (kad K 0)), (3, .ref (kad K p5)), (4, rfo K o3)] [.ref (kad K p5)] G
    refine x_ifnullR hc dX7_plan_14 ?_
    refine x_aloadO hc 2 dX7_plan_17 rfl ?_
    cases o3 with
    | none =>
      replace hf := mo_n hf
      show X K 19 [(0, .ref (kad K 0)), (3, .ref (kad K p5)), (4, .null)] [.null] G
      refine x_ifnonnullN hc dX7_plan_19 ?_
      refine x_iconst (v := (-1)) hc rfl dX7_plan_22 ?_
      cases hf
      exact x_iret hc rfl ho dX7_plan_23
    | some p7 =>
      replace hf := mo_s hf
      obtain ⟨k8, hf⟩ := chk_ok hf
      show X K 19 [(0, .ref (kad K 0)), (3, .ref (kad K p5)), (4, .ref (kad K p7))] [.ref (kad K p7)] G
      refine x_ifnonnullR (tgt := 24) hc dX7_plan_19 rfl ?_
      refine x_aload hc 2 dX7_plan_24 rfl ?_
      obtain ⟨x9, r10, hf⟩ := bj1_ok hf
      refine x_callVr (As := []) (p0 := p7) (v := (.int x9)) (T := TX6) hc (c_X6_there (kl K) (kV K) p7 G x9 r10) mw_X6_there tw_310 (kdb k8) (by decide) rfl rfl (Nat.le_of_ble_eq_true rfl) ⟨Nat.le_of_ble_eq_true rfl, Nat.le_of_ble_eq_true rfl⟩ dX7_plan_26 rfl ?_
      refine x_if_ne (tgt := 38) hc dX7_plan_29 rfl (fun c_29 => ?_) (fun c_29 => ?_)
      · replace hf := if_n hf c_29
        refine x_aload_n hc 0 dX7_plan_38 rfl rfl ?_
        refine x_getR (T := TX7) (p0 := 0) hc in_X7 rfl (by decide) (rfl : kd 0 = 7) 8 (by decide) tw_248 rfl rfl dX7_plan_39 ?_
        refine x_aload hc 2 dX7_plan_42 rfl ?_
        refine x_aload_n hc 0 dX7_plan_44 rfl rfl ?_
        refine x_getR (T := TX7) (p0 := 0) hc in_X7 rfl (by decide) (rfl : kd 0 = 7) 10 (by decide) tw_250 rfl rfl dX7_plan_45 ?_
        obtain ⟨G11, r12, hf⟩ := bj1_ok hf
        refine x_callVv (As := [.ref (kad K p7), .ref (kad K 41)]) (p0 := 39) (T := TX3) hc (c_X3_readPlan (kl K) (kV K) p7 41 G G11 r12) mw_X3_readPlan tw_318 (sh_X7_reader (rfl : kd 0 = 7)) (by decide) rfl rfl (Nat.le_of_ble_eq_true rfl) ⟨Nat.le_of_ble_eq_true rfl, Nat.le_of_ble_eq_true rfl⟩ dX7_plan_48 rfl ?_
        refine x_aload_n hc 0 dX7_plan_51 rfl rfl ?_
        refine x_getR (T := TX7) (p0 := 0) hc in_X7 rfl (by decide) (rfl : kd 0 = 7) 8 (by decide) tw_248 rfl rfl dX7_plan_52 ?_
        refine x_getI (T := TX3) (p0 := 39) hc in_X3 rfl (by decide) (sh_X7_reader (rfl : kd 0 = 7)) 1 (by decide) tw_157 rfl rfl dX7_plan_55 ?_
        refine x_bipush (v := (-9)) hc rfl dX7_plan_58 ?_
        refine x_icmp_eq (tgt := 66) hc dX7_plan_60 rfl (fun c_60 => ?_) (fun c_60 => ?_)
        · replace hf := if_p hf c_60
          refine x_aload_n hc 1 dX7_plan_66 rfl rfl ?_
          refine x_aload_n hc 0 dX7_plan_67 rfl rfl ?_
          refine x_getR (T := TX7) (p0 := 0) hc in_X7 rfl (by decide) (rfl : kd 0 = 7) 10 (by decide) tw_250 rfl rfl dX7_plan_68 ?_
          obtain ⟨G13, r14, hf⟩ := bj1_ok hf
          refine x_callVv (As := [.ref (kad K 41)]) (p0 := p5) (T := TX2) hc (c_X2_become (kl K) (kV K) p5 41 G11 G13 r14) mw_X2_become tw_356 (kdb k6) (by decide) rfl rfl (Nat.le_of_ble_eq_true rfl) ⟨Nat.le_of_ble_eq_true rfl, Nat.le_of_ble_eq_true rfl⟩ dX7_plan_71 rfl ?_
          refine x_aload_n hc 1 dX7_plan_74 rfl rfl ?_
          refine x_getI (T := TX2) (p0 := p5) hc in_X2 rfl (by decide) (kdb k6) 4 (by decide) tw_73 rfl rfl dX7_plan_75 ?_
          cases hf
          exact x_iret hc rfl ho dX7_plan_78
        · replace hf := if_n hf c_60
          refine x_bipush (v := (-4)) hc rfl dX7_plan_63 ?_
          cases hf
          exact x_iret hc rfl ho dX7_plan_65
      · replace hf := if_p hf c_29
        refine x_aload_n hc 0 dX7_plan_32 rfl rfl ?_
        refine x_iconst (v := 1) hc rfl dX7_plan_33 ?_
        obtain ⟨x16, G15, r17, hf⟩ := bj2_ok hf
        refine x_callVr (As := [.int 1]) (p0 := 0) (v := (.int x16)) (T := TX7) hc (c_X7_found (kl K) (kV K) 1 G x16 G15 r17) mw_X7_found tw_314 (rfl : kd 0 = 7) (by decide) rfl rfl (Nat.le_of_ble_eq_true rfl) ⟨Nat.le_of_ble_eq_true rfl, Nat.le_of_ble_eq_true rfl⟩ dX7_plan_34 rfl ?_
        cases hf
        exact x_iret hc rfl ho dX7_plan_37
def f_X7_way (a1 : Int32) (a2 : Int32) (a3 : Int32) (a4 : Int32) (G : G_) : Option (Int32 × G_) :=
  bj1 (f_X7_slabAt a1 G) fun o1 =>
  mo o1 (
    some ((-1), G)) (fun p3 =>
    chk (kd p3 == 5) <|
    bj1 (f_X7_isWay a2 a4) fun x5 =>
    if x5 = 0 then (
      some ((-1), G))
    else (
      bj1 (f_X7_within a3 1 120) fun x7 =>
      if x7 = 0 then (
        some ((-1), G))
      else (
        if G.1 p3 0 = 0 then (
          bj2 (f_X7_found 1 G) fun x19 G18 =>
          some (x19, G18))
        else (
          bj1 (f_X0_makeByWay 17 p3 a2 a3 a4 G) fun G9 =>
          bj1 (f_X0_crust 17 G9) fun x11 =>
          bj1 (f_X0_pink 17 G9) fun x13 =>
          bj2 (f_X7_told x11 x13 G9) fun x16 G15 =>
          some (x16, G15)))))
set_option maxHeartbeats 4000000 in
set_option maxRecDepth 100000 in
theorem c_X7_way (l : Launch) (V : VT) (a1 : Int32) (a2 : Int32) (a3 : Int32) (a4 : Int32) (G : G_) (r : Int32) (G' : G_) (hf : f_X7_way a1 a2 a3 a4 G = some (r, G')) : MC l V yX7_way cX7_way 6 (some .int) 5 118 [.ref (V.2.2.1 0), .int a1, .int a2, .int a3, .int a4] G (some (.int r)) G' := by
  refine mc_of (by decide) (Nat.le_of_ble_eq_true rfl) (fun K hV ho hc hkl => ?_)
  subst hV
  replace hc : Ok K cX7_way RX7 (Cond.code yX7_way cX7_way 6 (some .int) :: TB) (some .int) 5 118 6 := hc
  replace ho : Rets K (some (.int r)) G' := ho
  show X K 0 [(0, .ref (kad K 0)), (1, .int a1), (2, .int a2), (3, .int a3), (4, .int a4)] [] G
  unfold f_X7_way at hf
  refine x_aload_n hc 0 dX7_way_0 rfl rfl ?_
  refine x_iload_n hc 1 dX7_way_1 rfl rfl ?_
  obtain ⟨o1, r2, hf⟩ := bj1_ok hf
  refine x_callVr (As := [.int a1]) (p0 := 0) (v := (rfo K o1)) (T := TX7) hc (c_X7_slabAt (kl K) (kV K) a1 G o1 r2) mw_X7_slabAt tw_382 (rfl : kd 0 = 7) (by decide) rfl rfl (Nat.le_of_ble_eq_true rfl) ⟨Nat.le_of_ble_eq_true rfl, Nat.le_of_ble_eq_true rfl⟩ dX7_way_2 rfl ?_
  refine x_astoreO (L' := [(0, .ref (kad K 0)), (2, .int a2), (3, .int a3), (4, .int a4), (5, rfo K o1)]) hc [1, 3, 4, 5, 0] dX7_way_5 (by decide) rfl ?_
  refine x_aloadO hc 4 dX7_way_7 rfl ?_
  cases o1 with
  | none =>
    replace hf := mo_n hf
    show X K 9 [(0, .ref (kad K 0)), (2, .int a2), (3, .int a3), (4, .int a4), (5, .null)] [.null] G
    refine x_ifnullN (tgt := 31) hc dX7_way_9 rfl ?_
    refine x_iconst (v := (-1)) hc rfl dX7_way_31 ?_
    cases hf
    exact x_iret hc rfl ho dX7_way_32
  | some p3 =>
    replace hf := mo_s hf
    obtain ⟨k4, hf⟩ := chk_ok hf
    show X K 9 [(0, .ref (kad K 0)), (2, .int a2), (3, .int a3), (4, .int a4), (5, .ref (kad K p3))] [.ref (kad K p3)] G
    refine x_ifnullR hc dX7_way_9 ?_
    refine x_iload_n hc 1 dX7_way_12 rfl rfl ?_
    refine x_iload hc 3 dX7_way_13 rfl ?_
    obtain ⟨x5, r6, hf⟩ := bj1_ok hf
    refine x_callSr (As := [.int a2, .int a4]) (v := (.int x5)) hc (c_X7_isWay (kl K) (kV K) a2 a4 G x5 r6) mw_X7_isWay tw_766 rfl (Nat.le_of_ble_eq_true rfl) ⟨Nat.le_of_ble_eq_true rfl, Nat.le_of_ble_eq_true rfl⟩ dX7_way_15 rfl ?_
    refine x_if_eq (tgt := 31) hc dX7_way_18 rfl (fun c_18 => ?_) (fun c_18 => ?_)
    · replace hf := if_p hf c_18
      refine x_iconst (v := (-1)) hc rfl dX7_way_31 ?_
      cases hf
      exact x_iret hc rfl ho dX7_way_32
    · replace hf := if_n hf c_18
      refine x_iload_n hc 2 dX7_way_21 rfl rfl ?_
      refine x_iconst (v := 1) hc rfl dX7_way_22 ?_
      refine x_bipush (v := 120) hc rfl dX7_way_23 ?_
      obtain ⟨x7, r8, hf⟩ := bj1_ok hf
      refine x_callSr (As := [.int a3, .int 1, .int 120]) (v := (.int x7)) hc (c_X7_within (kl K) (kV K) a3 1 120 G x7 r8) mw_X7_within tw_401 rfl (Nat.le_of_ble_eq_true rfl) ⟨Nat.le_of_ble_eq_true rfl, Nat.le_of_ble_eq_true rfl⟩ dX7_way_25 rfl ?_
      refine x_if_ne (tgt := 33) hc dX7_way_28 rfl (fun c_28 => ?_) (fun c_28 => ?_)
      · replace hf := if_n hf c_28
        refine x_aload hc 4 dX7_way_33 rfl ?_
        refine x_getI (T := TX5) (p0 := p3) hc in_X5 rfl (by decide) (kdb k4) 0 (by decide) tw_169 rfl rfl dX7_way_35 ?_
        refine x_if_ne (tgt := 47) hc dX7_way_38 rfl (fun c_38 => ?_) (fun c_38 => ?_)
        · replace hf := if_n hf c_38
          refine x_aload_n hc 0 dX7_way_47 rfl rfl ?_
          refine x_getR (T := TX7) (p0 := 0) hc in_X7 rfl (by decide) (rfl : kd 0 = 7) 6 (by decide) tw_246 rfl rfl dX7_way_48 ?_
          refine x_aload hc 4 dX7_way_51 rfl ?_
          refine x_iload_n hc 1 dX7_way_53 rfl rfl ?_
          refine x_iload_n hc 2 dX7_way_54 rfl rfl ?_
          refine x_iload hc 3 dX7_way_55 rfl ?_
          obtain ⟨G9, r10, hf⟩ := bj1_ok hf
          refine x_callVv (As := [.ref (kad K p3), .int a2, .int a3, .int a4]) (p0 := 17) (T := TX0) hc (c_X0_makeByWay (kl K) (kV K) 17 p3 a2 a3 a4 G G9 r10) mw_X0_makeByWay tw_769 (sh_X7_trial (rfl : kd 0 = 7)) (by decide) rfl rfl (Nat.le_of_ble_eq_true rfl) ⟨Nat.le_of_ble_eq_true rfl, Nat.le_of_ble_eq_true rfl⟩ dX7_way_57 rfl ?_
          refine x_aload_n hc 0 dX7_way_60 rfl rfl ?_
          refine x_aload_n hc 0 dX7_way_61 rfl rfl ?_
          refine x_getR (T := TX7) (p0 := 0) hc in_X7 rfl (by decide) (rfl : kd 0 = 7) 6 (by decide) tw_246 rfl rfl dX7_way_62 ?_
          obtain ⟨x11, r12, hf⟩ := bj1_ok hf
          refine x_callVr (As := []) (p0 := 17) (v := (.int x11)) (T := TX0) hc (c_X0_crust (kl K) (kV K) 17 G9 x11 r12) mw_X0_crust tw_781 (sh_X7_trial (rfl : kd 0 = 7)) (by decide) rfl rfl (Nat.le_of_ble_eq_true rfl) ⟨Nat.le_of_ble_eq_true rfl, Nat.le_of_ble_eq_true rfl⟩ dX7_way_65 rfl ?_
          refine x_aload_n hc 0 dX7_way_68 rfl rfl ?_
          refine x_getR (T := TX7) (p0 := 0) hc in_X7 rfl (by decide) (rfl : kd 0 = 7) 6 (by decide) tw_246 rfl rfl dX7_way_69 ?_
          obtain ⟨x13, r14, hf⟩ := bj1_ok hf
          refine x_callVr (As := []) (p0 := 17) (v := (.int x13)) (T := TX0) hc (c_X0_pink (kl K) (kV K) 17 G9 x13 r14) mw_X0_pink tw_523 (sh_X7_trial (rfl : kd 0 = 7)) (by decide) rfl rfl (Nat.le_of_ble_eq_true rfl) ⟨Nat.le_of_ble_eq_true rfl, Nat.le_of_ble_eq_true rfl⟩ dX7_way_72 rfl ?_
          obtain ⟨x16, G15, r17, hf⟩ := bj2_ok hf
          refine x_callVr (As := [.int x11, .int x13]) (p0 := 0) (v := (.int x16)) (T := TX7) hc (c_X7_told (kl K) (kV K) x11 x13 G9 x16 G15 r17) mw_X7_told tw_457 (rfl : kd 0 = 7) (by decide) rfl rfl (Nat.le_of_ble_eq_true rfl) ⟨Nat.le_of_ble_eq_true rfl, Nat.le_of_ble_eq_true rfl⟩ dX7_way_75 rfl ?_
          cases hf
          exact x_iret hc rfl ho dX7_way_78
        · replace hf := if_p hf c_38
          refine x_aload_n hc 0 dX7_way_41 rfl rfl ?_
          refine x_iconst (v := 1) hc rfl dX7_way_42 ?_
          obtain ⟨x19, G18, r20, hf⟩ := bj2_ok hf
          refine x_callVr (As := [.int 1]) (p0 := 0) (v := (.int x19)) (T := TX7) hc (c_X7_found (kl K) (kV K) 1 G x19 G18 r20) mw_X7_found tw_314 (rfl : kd 0 = 7) (by decide) rfl rfl (Nat.le_of_ble_eq_true rfl) ⟨Nat.le_of_ble_eq_true rfl, Nat.le_of_ble_eq_true rfl⟩ dX7_way_43 rfl ?_
          cases hf
          exact x_iret hc rfl ho dX7_way_46
      · replace hf := if_p hf c_28
        refine x_iconst (v := (-1)) hc rfl dX7_way_31 ?_
        cases hf
        exact x_iret hc rfl ho dX7_way_32
def f_X7_often (a1 : Int32) (a2 : Int32) (a3 : Int32) (a4 : Int32) (G : G_) : Option (Int32 × G_) :=
  bj1 (f_X7_slabAt a1 G) fun o1 =>
  mo o1 (
    some ((-1), G)) (fun p3 =>
    chk (kd p3 == 5) <|
    bj1 (f_X7_isWay a2 a4) fun x5 =>
    if x5 = 0 then (
      some ((-1), G))
    else (
      bj1 (f_X7_within a3 1 120) fun x7 =>
      if x7 = 0 then (
        some ((-1), G))
      else (
        if G.1 p3 0 = 0 then (
          bj2 (f_X7_found 1 G) fun x25 G24 =>
          some (x25, G24))
        else (
          bj1 (f_X0_makeByWay 17 p3 a2 a3 a4 G) fun G9 =>
          bj1 (f_X0_makeByWay 28 p3 a2 a3 ((a3 + 1) / 2) G9) fun G11 =>
          bj1 (f_X0_pink 17 G11) fun x13 =>
          bj1 (f_X0_pink 28 G11) fun x15 =>
          bj1 (f_X0_middleMost 17 G11) fun x17 =>
          bj1 (f_X0_middleMost 28 G11) fun x19 =>
          bj2 (f_X7_told ((100 + x13) - x15) (x17 - x19) G11) fun x22 G21 =>
          some (x22, G21)))))
set_option maxHeartbeats 4000000 in
set_option maxRecDepth 100000 in
theorem c_X7_often (l : Launch) (V : VT) (a1 : Int32) (a2 : Int32) (a3 : Int32) (a4 : Int32) (G : G_) (r : Int32) (G' : G_) (hf : f_X7_often a1 a2 a3 a4 G = some (r, G')) : MC l V yX7_often cX7_often 6 (some .int) 5 118 [.ref (V.2.2.1 0), .int a1, .int a2, .int a3, .int a4] G (some (.int r)) G' := by
  refine mc_of (by decide) (Nat.le_of_ble_eq_true rfl) (fun K hV ho hc hkl => ?_)
  subst hV
  replace hc : Ok K cX7_often RX7 (Cond.code yX7_often cX7_often 6 (some .int) :: TB) (some .int) 5 118 6 := hc
  replace ho : Rets K (some (.int r)) G' := ho
  show X K 0 [(0, .ref (kad K 0)), (1, .int a1), (2, .int a2), (3, .int a3), (4, .int a4)] [] G
  unfold f_X7_often at hf
  refine x_aload_n hc 0 dX7_often_0 rfl rfl ?_
  refine x_iload_n hc 1 dX7_often_1 rfl rfl ?_
  obtain ⟨o1, r2, hf⟩ := bj1_ok hf
  refine x_callVr (As := [.int a1]) (p0 := 0) (v := (rfo K o1)) (T := TX7) hc (c_X7_slabAt (kl K) (kV K) a1 G o1 r2) mw_X7_slabAt tw_382 (rfl : kd 0 = 7) (by decide) rfl rfl (Nat.le_of_ble_eq_true rfl) ⟨Nat.le_of_ble_eq_true rfl, Nat.le_of_ble_eq_true rfl⟩ dX7_often_2 rfl ?_
  refine x_astoreO (L' := [(0, .ref (kad K 0)), (2, .int a2), (3, .int a3), (4, .int a4), (5, rfo K o1)]) hc [1, 3, 4, 5, 0] dX7_often_5 (by decide) rfl ?_
  refine x_aloadO hc 4 dX7_often_7 rfl ?_
  cases o1 with
  | none =>
    replace hf := mo_n hf
    show X K 9 [(0, .ref (kad K 0)), (2, .int a2), (3, .int a3), (4, .int a4), (5, .null)] [.null] G
    refine x_ifnullN (tgt := 31) hc dX7_often_9 rfl ?_
    refine x_iconst (v := (-1)) hc rfl dX7_often_31 ?_
    cases hf
    exact x_iret hc rfl ho dX7_often_32
  | some p3 =>
    replace hf := mo_s hf
    obtain ⟨k4, hf⟩ := chk_ok hf
    show X K 9 [(0, .ref (kad K 0)), (2, .int a2), (3, .int a3), (4, .int a4), (5, .ref (kad K p3))] [.ref (kad K p3)] G
    refine x_ifnullR hc dX7_often_9 ?_
    refine x_iload_n hc 1 dX7_often_12 rfl rfl ?_
    refine x_iload hc 3 dX7_often_13 rfl ?_
    obtain ⟨x5, r6, hf⟩ := bj1_ok hf
    refine x_callSr (As := [.int a2, .int a4]) (v := (.int x5)) hc (c_X7_isWay (kl K) (kV K) a2 a4 G x5 r6) mw_X7_isWay tw_766 rfl (Nat.le_of_ble_eq_true rfl) ⟨Nat.le_of_ble_eq_true rfl, Nat.le_of_ble_eq_true rfl⟩ dX7_often_15 rfl ?_
    refine x_if_eq (tgt := 31) hc dX7_often_18 rfl (fun c_18 => ?_) (fun c_18 => ?_)
    · replace hf := if_p hf c_18
      refine x_iconst (v := (-1)) hc rfl dX7_often_31 ?_
      cases hf
      exact x_iret hc rfl ho dX7_often_32
    · replace hf := if_n hf c_18
      refine x_iload_n hc 2 dX7_often_21 rfl rfl ?_
      refine x_iconst (v := 1) hc rfl dX7_often_22 ?_
      refine x_bipush (v := 120) hc rfl dX7_often_23 ?_
      obtain ⟨x7, r8, hf⟩ := bj1_ok hf
      refine x_callSr (As := [.int a3, .int 1, .int 120]) (v := (.int x7)) hc (c_X7_within (kl K) (kV K) a3 1 120 G x7 r8) mw_X7_within tw_401 rfl (Nat.le_of_ble_eq_true rfl) ⟨Nat.le_of_ble_eq_true rfl, Nat.le_of_ble_eq_true rfl⟩ dX7_often_25 rfl ?_
      refine x_if_ne (tgt := 33) hc dX7_often_28 rfl (fun c_28 => ?_) (fun c_28 => ?_)
      · replace hf := if_n hf c_28
        refine x_aload hc 4 dX7_often_33 rfl ?_
        refine x_getI (T := TX5) (p0 := p3) hc in_X5 rfl (by decide) (kdb k4) 0 (by decide) tw_169 rfl rfl dX7_often_35 ?_
        refine x_if_ne (tgt := 47) hc dX7_often_38 rfl (fun c_38 => ?_) (fun c_38 => ?_)
        · replace hf := if_n hf c_38
          refine x_aload_n hc 0 dX7_often_47 rfl rfl ?_
          refine x_getR (T := TX7) (p0 := 0) hc in_X7 rfl (by decide) (rfl : kd 0 = 7) 6 (by decide) tw_246 rfl rfl dX7_often_48 ?_
          refine x_aload hc 4 dX7_often_51 rfl ?_
          refine x_iload_n hc 1 dX7_often_53 rfl rfl ?_
          refine x_iload_n hc 2 dX7_often_54 rfl rfl ?_
          refine x_iload hc 3 dX7_often_55 rfl ?_
          obtain ⟨G9, r10, hf⟩ := bj1_ok hf
          refine x_callVv (As := [.ref (kad K p3), .int a2, .int a3, .int a4]) (p0 := 17) (T := TX0) hc (c_X0_makeByWay (kl K) (kV K) 17 p3 a2 a3 a4 G G9 r10) mw_X0_makeByWay tw_769 (sh_X7_trial (rfl : kd 0 = 7)) (by decide) rfl rfl (Nat.le_of_ble_eq_true rfl) ⟨Nat.le_of_ble_eq_true rfl, Nat.le_of_ble_eq_true rfl⟩ dX7_often_57 rfl ?_
          refine x_aload_n hc 0 dX7_often_60 rfl rfl ?_
          refine x_getR (T := TX7) (p0 := 0) hc in_X7 rfl (by decide) (rfl : kd 0 = 7) 7 (by decide) tw_247 rfl rfl dX7_often_61 ?_
          refine x_aload hc 4 dX7_often_64 rfl ?_
          refine x_iload_n hc 1 dX7_often_66 rfl rfl ?_
          refine x_iload_n hc 2 dX7_often_67 rfl rfl ?_
          refine x_iload_n hc 2 dX7_often_68 rfl rfl ?_
          refine x_iconst (v := 1) hc rfl dX7_often_69 ?_
          refine x_iadd hc dX7_often_70 ?_
          refine x_iconst (v := 2) hc rfl dX7_often_71 ?_
          refine x_idiv hc (by decide) dX7_often_72 ?_
          obtain ⟨G11, r12, hf⟩ := bj1_ok hf
          refine x_callVv (As := [.ref (kad K p3), .int a2, .int a3, .int ((a3 + 1) / 2)]) (p0 := 28) (T := TX0) hc (c_X0_makeByWay (kl K) (kV K) 28 p3 a2 a3 ((a3 + 1) / 2) G9 G11 r12) mw_X0_makeByWay tw_769 (sh_X7_second (rfl : kd 0 = 7)) (by decide) rfl rfl (Nat.le_of_ble_eq_true rfl) ⟨Nat.le_of_ble_eq_true rfl, Nat.le_of_ble_eq_true rfl⟩ dX7_often_73 rfl ?_
          refine x_aload_n hc 0 dX7_often_76 rfl rfl ?_
          refine x_bipush (v := 100) hc rfl dX7_often_77 ?_
          refine x_aload_n hc 0 dX7_often_79 rfl rfl ?_
          refine x_getR (T := TX7) (p0 := 0) hc in_X7 rfl (by decide) (rfl : kd 0 = 7) 6 (by decide) tw_246 rfl rfl dX7_often_80 ?_
          obtain ⟨x13, r14, hf⟩ := bj1_ok hf
          refine x_callVr (As := []) (p0 := 17) (v := (.int x13)) (T := TX0) hc (c_X0_pink (kl K) (kV K) 17 G11 x13 r14) mw_X0_pink tw_523 (sh_X7_trial (rfl : kd 0 = 7)) (by decide) rfl rfl (Nat.le_of_ble_eq_true rfl) ⟨Nat.le_of_ble_eq_true rfl, Nat.le_of_ble_eq_true rfl⟩ dX7_often_83 rfl ?_
          refine x_iadd hc dX7_often_86 ?_
          refine x_aload_n hc 0 dX7_often_87 rfl rfl ?_
          refine x_getR (T := TX7) (p0 := 0) hc in_X7 rfl (by decide) (rfl : kd 0 = 7) 7 (by decide) tw_247 rfl rfl dX7_often_88 ?_
          obtain ⟨x15, r16, hf⟩ := bj1_ok hf
          refine x_callVr (As := []) (p0 := 28) (v := (.int x15)) (T := TX0) hc (c_X0_pink (kl K) (kV K) 28 G11 x15 r16) mw_X0_pink tw_523 (sh_X7_second (rfl : kd 0 = 7)) (by decide) rfl rfl (Nat.le_of_ble_eq_true rfl) ⟨Nat.le_of_ble_eq_true rfl, Nat.le_of_ble_eq_true rfl⟩ dX7_often_91 rfl ?_
          refine x_isub hc dX7_often_94 ?_
          refine x_aload_n hc 0 dX7_often_95 rfl rfl ?_
          refine x_getR (T := TX7) (p0 := 0) hc in_X7 rfl (by decide) (rfl : kd 0 = 7) 6 (by decide) tw_246 rfl rfl dX7_often_96 ?_
          obtain ⟨x17, r18, hf⟩ := bj1_ok hf
          refine x_callVr (As := []) (p0 := 17) (v := (.int x17)) (T := TX0) hc (c_X0_middleMost (kl K) (kV K) 17 G11 x17 r18) mw_X0_middleMost tw_789 (sh_X7_trial (rfl : kd 0 = 7)) (by decide) rfl rfl (Nat.le_of_ble_eq_true rfl) ⟨Nat.le_of_ble_eq_true rfl, Nat.le_of_ble_eq_true rfl⟩ dX7_often_99 rfl ?_
          refine x_aload_n hc 0 dX7_often_102 rfl rfl ?_
          refine x_getR (T := TX7) (p0 := 0) hc in_X7 rfl (by decide) (rfl : kd 0 = 7) 7 (by decide) tw_247 rfl rfl dX7_often_103 ?_
          obtain ⟨x19, r20, hf⟩ := bj1_ok hf
          refine x_callVr (As := []) (p0 := 28) (v := (.int x19)) (T := TX0) hc (c_X0_middleMost (kl K) (kV K) 28 G11 x19 r20) mw_X0_middleMost tw_789 (sh_X7_second (rfl : kd 0 = 7)) (by decide) rfl rfl (Nat.le_of_ble_eq_true rfl) ⟨Nat.le_of_ble_eq_true rfl, Nat.le_of_ble_eq_true rfl⟩ dX7_often_106 rfl ?_
          refine x_isub hc dX7_often_109 ?_
          obtain ⟨x22, G21, r23, hf⟩ := bj2_ok hf
          refine x_callVr (As := [.int ((100 + x13) - x15), .int (x17 - x19)]) (p0 := 0) (v := (.int x22)) (T := TX7) hc (c_X7_told (kl K) (kV K) ((100 + x13) - x15) (x17 - x19) G11 x22 G21 r23) mw_X7_told tw_457 (rfl : kd 0 = 7) (by decide) rfl rfl (Nat.le_of_ble_eq_true rfl) ⟨Nat.le_of_ble_eq_true rfl, Nat.le_of_ble_eq_true rfl⟩ dX7_often_110 rfl ?_
          cases hf
          exact x_iret hc rfl ho dX7_often_113
        · replace hf := if_p hf c_38
          refine x_aload_n hc 0 dX7_often_41 rfl rfl ?_
          refine x_iconst (v := 1) hc rfl dX7_often_42 ?_
          obtain ⟨x25, G24, r26, hf⟩ := bj2_ok hf
          refine x_callVr (As := [.int 1]) (p0 := 0) (v := (.int x25)) (T := TX7) hc (c_X7_found (kl K) (kV K) 1 G x25 G24 r26) mw_X7_found tw_314 (rfl : kd 0 = 7) (by decide) rfl rfl (Nat.le_of_ble_eq_true rfl) ⟨Nat.le_of_ble_eq_true rfl, Nat.le_of_ble_eq_true rfl⟩ dX7_often_43 rfl ?_
          cases hf
          exact x_iret hc rfl ho dX7_often_46
      · replace hf := if_p hf c_28
        refine x_iconst (v := (-1)) hc rfl dX7_often_31 ?_
        cases hf
        exact x_iret hc rfl ho dX7_often_32
def f_X7_turns_l55_13 (a2 : Int32) (a3 : Int32) (p3 : Nat) : Nat → Int32 → Int32 → Int32 → G_ → Option (Int32 × Int32 × G_)
  | 0, _, _, _, _ => none
  | n13 + 1, v9, v10, v11, G12 =>
    if 60 < v11 then (
      some (v9, v10, G12))
    else (
      bj1 (f_X0_makeByWay 17 p3 a2 a3 v11 G12) fun G14 =>
      bj1 (f_X0_pink 17 G14) fun x16 =>
      bj2 (
        if x16 ≤ v10 then (
          some (v9, v10))
        else (
          bj1 (f_X0_pink 17 G14) fun x19 =>
          some (v11, x19))) fun (x21 : Int32) (x22 : Int32) =>
      f_X7_turns_l55_13 a2 a3 p3 n13 x21 x22 (v11 + 1) G14)
def f_X7_turns (a1 : Int32) (a2 : Int32) (a3 : Int32) (G : G_) : Option (Int32 × G_) :=
  bj1 (f_X7_slabAt a1 G) fun o1 =>
  mo o1 (
    some ((-1), G)) (fun p3 =>
    chk (kd p3 == 5) <|
    bj1 (f_X7_isWay a2 1) fun x5 =>
    if x5 = 0 then (
      some ((-1), G))
    else (
      bj1 (f_X7_within a3 1 120) fun x7 =>
      if x7 = 0 then (
        some ((-1), G))
      else (
        if G.1 p3 0 = 0 then (
          bj2 (f_X7_found 1 G) fun x30 G29 =>
          some (x30, G29))
        else (
          bj3 (f_X7_turns_l55_13 a2 a3 p3 FU 1 (-1) 1 G) fun x23 x24 G25 =>
          bj2 (f_X7_told x23 x24 G25) fun x27 G26 =>
          some (x27, G26)))))
set_option maxHeartbeats 4000000 in
set_option maxRecDepth 100000 in
theorem c_X7_turns_l55_13 {K : CT} (a2 : Int32) (a3 : Int32) (p3 : Nat) (hc : Ok K cX7_turns RX7 (Cond.code yX7_turns cX7_turns 8 (some .int) :: TB) (some .int) 5 118 8)  : ∀ (n13 : Nat) (v9 : Int32) (v10 : Int32) (v11 : Int32) (G12 : G_) (x23 : Int32) (x24 : Int32) (G25 : G_), f_X7_turns_l55_13 a2 a3 p3 n13 v9 v10 v11 G12 = some (x23, x24, G25) → X K 106 [(0, .ref (kad K 0)), (5, .int x23), (6, .int x24)] [] G25 → X K 55 [(0, .ref (kad K 0)), (2, .int a2), (3, .int a3), (4, .ref (kad K p3)), (5, .int v9), (6, .int v10), (7, .int v11)] [] G12 := by
  intro n13
  induction n13 with
  | zero =>
    intro v9 v10 v11 G12 x23 x24 G25 hf hk
    cases hf
  | succ n13 ih =>
    intro v9 v10 v11 G12 x23 x24 G25 hf hk
    unfold f_X7_turns_l55_13 at hf
    refine x_iload hc 6 dX7_turns_55 rfl ?_
    refine x_bipush (v := 60) hc rfl dX7_turns_57 ?_
    refine x_icmp_gt (tgt := 106) hc dX7_turns_59 rfl (fun c_59 => ?_) (fun c_59 => ?_)
    · replace hf := if_p hf c_59
      cases hf
      exact x_sub [0, 4, 5] hk rfl
    · replace hf := if_n hf c_59
      refine x_aload_n hc 0 dX7_turns_62 rfl rfl ?_
      refine x_getR (T := TX7) (p0 := 0) hc in_X7 rfl (by decide) (rfl : kd 0 = 7) 6 (by decide) tw_246 rfl rfl dX7_turns_63 ?_
      refine x_aload hc 3 dX7_turns_66 rfl ?_
      refine x_iload_n hc 1 dX7_turns_68 rfl rfl ?_
      refine x_iload_n hc 2 dX7_turns_69 rfl rfl ?_
      refine x_iload hc 6 dX7_turns_70 rfl ?_
      obtain ⟨G14, r15, hf⟩ := bj1_ok hf
      refine x_callVv (As := [.ref (kad K p3), .int a2, .int a3, .int v11]) (p0 := 17) (T := TX0) hc (c_X0_makeByWay (kl K) (kV K) 17 p3 a2 a3 v11 G12 G14 r15) mw_X0_makeByWay tw_769 (sh_X7_trial (rfl : kd 0 = 7)) (by decide) rfl rfl (Nat.le_of_ble_eq_true rfl) ⟨Nat.le_of_ble_eq_true rfl, Nat.le_of_ble_eq_true rfl⟩ dX7_turns_72 rfl ?_
      refine x_aload_n hc 0 dX7_turns_75 rfl rfl ?_
      refine x_getR (T := TX7) (p0 := 0) hc in_X7 rfl (by decide) (rfl : kd 0 = 7) 6 (by decide) tw_246 rfl rfl dX7_turns_76 ?_
      obtain ⟨x16, r17, hf⟩ := bj1_ok hf
      refine x_callVr (As := []) (p0 := 17) (v := (.int x16)) (T := TX0) hc (c_X0_pink (kl K) (kV K) 17 G14 x16 r17) mw_X0_pink tw_523 (sh_X7_trial (rfl : kd 0 = 7)) (by decide) rfl rfl (Nat.le_of_ble_eq_true rfl) ⟨Nat.le_of_ble_eq_true rfl, Nat.le_of_ble_eq_true rfl⟩ dX7_turns_79 rfl ?_
      refine x_iload hc 5 dX7_turns_82 rfl ?_
      obtain ⟨x21, x22, hr, hf⟩ := bj2_ok hf
      have hj_100_18 : X K 100 [(0, .ref (kad K 0)), (2, .int a2), (3, .int a3), (4, .ref (kad K p3)), (5, .int x21), (6, .int x22), (7, .int v11)] [] G14 := by
        clear hr
        refine x_iinc (v := v11 + 1) (L' := [(0, .ref (kad K 0)), (2, .int a2), (3, .int a3), (4, .ref (kad K p3)), (5, .int x21), (6, .int x22), (7, .int (v11 + 1))]) hc 6 [1, 2, 3, 4, 5, 6, 0] dX7_turns_100 rfl rfl (by decide) rfl ?_
        refine x_goto (tgt := 55) hc dX7_turns_103 rfl ?_
        exact x_sub [0, 1, 2, 3, 4, 5, 6] (ih _ _ _ _ _ _ _ hf hk) rfl
      replace hf := hr
      clear hr
      refine x_icmp_le (tgt := 100) hc dX7_turns_84 rfl (fun c_84 => ?_) (fun c_84 => ?_)
      · replace hf := if_p hf c_84
        cases hf
        exact x_sub [0, 1, 2, 3, 4, 5, 6] hj_100_18 rfl
      · replace hf := if_n hf c_84
        refine x_aload_n hc 0 dX7_turns_87 rfl rfl ?_
        refine x_getR (T := TX7) (p0 := 0) hc in_X7 rfl (by decide) (rfl : kd 0 = 7) 6 (by decide) tw_246 rfl rfl dX7_turns_88 ?_
        obtain ⟨x19, r20, hf⟩ := bj1_ok hf
        refine x_callVr (As := []) (p0 := 17) (v := (.int x19)) (T := TX0) hc (c_X0_pink (kl K) (kV K) 17 G14 x19 r20) mw_X0_pink tw_523 (sh_X7_trial (rfl : kd 0 = 7)) (by decide) rfl rfl (Nat.le_of_ble_eq_true rfl) ⟨Nat.le_of_ble_eq_true rfl, Nat.le_of_ble_eq_true rfl⟩ dX7_turns_91 rfl ?_
        refine x_istore (L' := [(0, .ref (kad K 0)), (2, .int a2), (3, .int a3), (4, .ref (kad K p3)), (6, .int x19), (7, .int v11)]) hc [1, 2, 3, 4, 0, 6] dX7_turns_94 (by decide) rfl ?_
        refine x_iload hc 5 dX7_turns_96 rfl ?_
        refine x_istore (L' := [(0, .ref (kad K 0)), (2, .int a2), (3, .int a3), (4, .ref (kad K p3)), (5, .int v11), (6, .int x19), (7, .int v11)]) hc [1, 2, 3, 4, 0, 5, 6] dX7_turns_98 (by decide) rfl ?_
        cases hf
        exact x_sub [0, 1, 2, 3, 4, 5, 6] hj_100_18 rfl
set_option maxHeartbeats 4000000 in
set_option maxRecDepth 100000 in
theorem c_X7_turns (l : Launch) (V : VT) (a1 : Int32) (a2 : Int32) (a3 : Int32) (G : G_) (r : Int32) (G' : G_) (hf : f_X7_turns a1 a2 a3 G = some (r, G')) : MC l V yX7_turns cX7_turns 8 (some .int) 5 118 [.ref (V.2.2.1 0), .int a1, .int a2, .int a3] G (some (.int r)) G' := by
  refine mc_of (by decide) (Nat.le_of_ble_eq_true rfl) (fun K hV ho hc hkl => ?_)
  subst hV
  replace hc : Ok K cX7_turns RX7 (Cond.code yX7_turns cX7_turns 8 (some .int) :: TB) (some .int) 5 118 8 := hc
  replace ho : Rets K (some (.int r)) G' := ho
  show X K 0 [(0, .ref (kad K 0)), (1, .int a1), (2, .int a2), (3, .int a3)] [] G
  unfold f_X7_turns at hf
  refine x_aload_n hc 0 dX7_turns_0 rfl rfl ?_
  refine x_iload_n hc 1 dX7_turns_1 rfl rfl ?_
  obtain ⟨o1, r2, hf⟩ := bj1_ok hf
  refine x_callVr (As := [.int a1]) (p0 := 0) (v := (rfo K o1)) (T := TX7) hc (c_X7_slabAt (kl K) (kV K) a1 G o1 r2) mw_X7_slabAt tw_382 (rfl : kd 0 = 7) (by decide) rfl rfl (Nat.le_of_ble_eq_true rfl) ⟨Nat.le_of_ble_eq_true rfl, Nat.le_of_ble_eq_true rfl⟩ dX7_turns_2 rfl ?_
  refine x_astoreO (L' := [(0, .ref (kad K 0)), (2, .int a2), (3, .int a3), (4, rfo K o1)]) hc [1, 3, 4, 0] dX7_turns_5 (by decide) rfl ?_
  refine x_aloadO hc 3 dX7_turns_7 rfl ?_
  cases o1 with
  | none =>
    replace hf := mo_n hf
    show X K 9 [(0, .ref (kad K 0)), (2, .int a2), (3, .int a3), (4, .null)] [.null] G
    refine x_ifnullN (tgt := 30) hc dX7_turns_9 rfl ?_
    refine x_iconst (v := (-1)) hc rfl dX7_turns_30 ?_
    cases hf
    exact x_iret hc rfl ho dX7_turns_31
  | some p3 =>
    replace hf := mo_s hf
    obtain ⟨k4, hf⟩ := chk_ok hf
    show X K 9 [(0, .ref (kad K 0)), (2, .int a2), (3, .int a3), (4, .ref (kad K p3))] [.ref (kad K p3)] G
    refine x_ifnullR hc dX7_turns_9 ?_
    refine x_iload_n hc 1 dX7_turns_12 rfl rfl ?_
    refine x_iconst (v := 1) hc rfl dX7_turns_13 ?_
    obtain ⟨x5, r6, hf⟩ := bj1_ok hf
    refine x_callSr (As := [.int a2, .int 1]) (v := (.int x5)) hc (c_X7_isWay (kl K) (kV K) a2 1 G x5 r6) mw_X7_isWay tw_766 rfl (Nat.le_of_ble_eq_true rfl) ⟨Nat.le_of_ble_eq_true rfl, Nat.le_of_ble_eq_true rfl⟩ dX7_turns_14 rfl ?_
    refine x_if_eq (tgt := 30) hc dX7_turns_17 rfl (fun c_17 => ?_) (fun c_17 => ?_)
    · replace hf := if_p hf c_17
      refine x_iconst (v := (-1)) hc rfl dX7_turns_30 ?_
      cases hf
      exact x_iret hc rfl ho dX7_turns_31
    · replace hf := if_n hf c_17
      refine x_iload_n hc 2 dX7_turns_20 rfl rfl ?_
      refine x_iconst (v := 1) hc rfl dX7_turns_21 ?_
      refine x_bipush (v := 120) hc rfl dX7_turns_22 ?_
      obtain ⟨x7, r8, hf⟩ := bj1_ok hf
      refine x_callSr (As := [.int a3, .int 1, .int 120]) (v := (.int x7)) hc (c_X7_within (kl K) (kV K) a3 1 120 G x7 r8) mw_X7_within tw_401 rfl (Nat.le_of_ble_eq_true rfl) ⟨Nat.le_of_ble_eq_true rfl, Nat.le_of_ble_eq_true rfl⟩ dX7_turns_24 rfl ?_
      refine x_if_ne (tgt := 32) hc dX7_turns_27 rfl (fun c_27 => ?_) (fun c_27 => ?_)
      · replace hf := if_n hf c_27
        refine x_aload hc 3 dX7_turns_32 rfl ?_
        refine x_getI (T := TX5) (p0 := p3) hc in_X5 rfl (by decide) (kdb k4) 0 (by decide) tw_169 rfl rfl dX7_turns_34 ?_
        refine x_if_ne (tgt := 46) hc dX7_turns_37 rfl (fun c_37 => ?_) (fun c_37 => ?_)
        · replace hf := if_n hf c_37
          refine x_iconst (v := 1) hc rfl dX7_turns_46 ?_
          refine x_istore (L' := [(0, .ref (kad K 0)), (2, .int a2), (3, .int a3), (4, .ref (kad K p3)), (5, .int 1)]) hc [1, 2, 3, 4, 0] dX7_turns_47 (by decide) rfl ?_
          refine x_iconst (v := (-1)) hc rfl dX7_turns_49 ?_
          refine x_istore (L' := [(0, .ref (kad K 0)), (2, .int a2), (3, .int a3), (4, .ref (kad K p3)), (5, .int 1), (6, .int (-1))]) hc [1, 2, 3, 4, 5, 0] dX7_turns_50 (by decide) rfl ?_
          refine x_iconst (v := 1) hc rfl dX7_turns_52 ?_
          refine x_istore (L' := [(0, .ref (kad K 0)), (2, .int a2), (3, .int a3), (4, .ref (kad K p3)), (5, .int 1), (6, .int (-1)), (7, .int 1)]) hc [1, 2, 3, 4, 5, 6, 0] dX7_turns_53 (by decide) rfl ?_
          obtain ⟨x23, x24, G25, hl_55, hf⟩ := bj3_ok hf
          have he_106_n13 : X K 106 [(0, .ref (kad K 0)), (5, .int x23), (6, .int x24)] [] G25 := by
            clear hl_55
            refine x_aload_n hc 0 dX7_turns_106 rfl rfl ?_
            refine x_iload hc 1 dX7_turns_107 rfl ?_
            refine x_iload hc 2 dX7_turns_109 rfl ?_
            obtain ⟨x27, G26, r28, hf⟩ := bj2_ok hf
            refine x_callVr (As := [.int x23, .int x24]) (p0 := 0) (v := (.int x27)) (T := TX7) hc (c_X7_told (kl K) (kV K) x23 x24 G25 x27 G26 r28) mw_X7_told tw_457 (rfl : kd 0 = 7) (by decide) rfl rfl (Nat.le_of_ble_eq_true rfl) ⟨Nat.le_of_ble_eq_true rfl, Nat.le_of_ble_eq_true rfl⟩ dX7_turns_111 rfl ?_
            cases hf
            exact x_iret hc rfl ho dX7_turns_114
          exact x_sub [0, 1, 2, 3, 4, 5, 6] (c_X7_turns_l55_13 a2 a3 p3 hc  FU 1 (-1) 1 G x23 x24 G25 hl_55 he_106_n13) rfl
        · replace hf := if_p hf c_37
          refine x_aload_n hc 0 dX7_turns_40 rfl rfl ?_
          refine x_iconst (v := 1) hc rfl dX7_turns_41 ?_
          obtain ⟨x30, G29, r31, hf⟩ := bj2_ok hf
          refine x_callVr (As := [.int 1]) (p0 := 0) (v := (.int x30)) (T := TX7) hc (c_X7_found (kl K) (kV K) 1 G x30 G29 r31) mw_X7_found tw_314 (rfl : kd 0 = 7) (by decide) rfl rfl (Nat.le_of_ble_eq_true rfl) ⟨Nat.le_of_ble_eq_true rfl, Nat.le_of_ble_eq_true rfl⟩ dX7_turns_42 rfl ?_
          cases hf
          exact x_iret hc rfl ho dX7_turns_45
      · replace hf := if_p hf c_27
        refine x_iconst (v := (-1)) hc rfl dX7_turns_30 ?_
        cases hf
        exact x_iret hc rfl ho dX7_turns_31
def f_X7_rest_l78_20  : Nat → Int32 → Int32 → Int32 → G_ → Option (Int32 × Int32 × G_)
  | 0, _, _, _, _ => none
  | n20 + 1, v16, v17, v18, G19 =>
    if 30 < v18 then (
      some (v16, v17, G19))
    else (
      bj1 (f_X0_heat 17 4 0 G19) fun G21 =>
      bj1 (f_X0_lossNow 17 G21) fun x23 =>
      bj2 (
        if v17 ≤ x23 then (
          some (v16, v17))
        else (
          bj1 (f_X0_lossNow 17 G21) fun x26 =>
          some (v18, x26))) fun (x28 : Int32) (x29 : Int32) =>
      f_X7_rest_l78_20 n20 x28 x29 (v18 + 1) G21)
def f_X7_rest (a1 : Int32) (a2 : Int32) (G : G_) : Option (Int32 × G_) :=
  bj1 (f_X7_slabAt a1 G) fun o1 =>
  bj1 (f_X7_planAt a2 G) fun o3 =>
  mo o1 (
    some ((-1), G)) (fun p5 =>
    chk (kd p5 == 5) <|
    mo o3 (
      some ((-1), G)) (fun p7 =>
      chk (kd p7 == 2) <|
      if G.1 p5 0 = 0 then (
        bj2 (f_X7_found 1 G) fun x10 G9 =>
        some (x10, G9))
      else (
        if G.1 p7 3 = 0 then (
          bj2 (f_X7_found 1 G) fun x37 G36 =>
          some (x37, G36))
        else (
          bj1 (f_X0_makeByPlan 17 p5 (G.1 p5 1) (G.1 p5 3) p7 G) fun G12 =>
          bj1 (f_X0_lossNow 17 G12) fun x14 =>
          bj3 (f_X7_rest_l78_20 FU 0 x14 1 G12) fun x30 x31 G32 =>
          bj2 (f_X7_told x30 x31 G32) fun x34 G33 =>
          some (x34, G33)))))
set_option maxHeartbeats 4000000 in
set_option maxRecDepth 100000 in
theorem c_X7_rest_l78_20 {K : CT}  (hc : Ok K cX7_rest RX7 (Cond.code yX7_rest cX7_rest 8 (some .int) :: TB) (some .int) 5 117 8)  : ∀ (n20 : Nat) (v16 : Int32) (v17 : Int32) (v18 : Int32) (G19 : G_) (x30 : Int32) (x31 : Int32) (G32 : G_), f_X7_rest_l78_20 n20 v16 v17 v18 G19 = some (x30, x31, G32) → X K 125 [(0, .ref (kad K 0)), (5, .int x30), (6, .int x31)] [] G32 → X K 78 [(0, .ref (kad K 0)), (5, .int v16), (6, .int v17), (7, .int v18)] [] G19 := by
  intro n20
  induction n20 with
  | zero =>
    intro v16 v17 v18 G19 x30 x31 G32 hf hk
    cases hf
  | succ n20 ih =>
    intro v16 v17 v18 G19 x30 x31 G32 hf hk
    unfold f_X7_rest_l78_20 at hf
    refine x_iload hc 3 dX7_rest_78 rfl ?_
    refine x_bipush (v := 30) hc rfl dX7_rest_80 ?_
    refine x_icmp_gt (tgt := 125) hc dX7_rest_82 rfl (fun c_82 => ?_) (fun c_82 => ?_)
    · replace hf := if_p hf c_82
      cases hf
      exact x_sub [0, 1, 2] hk rfl
    · replace hf := if_n hf c_82
      refine x_aload_n hc 0 dX7_rest_85 rfl rfl ?_
      refine x_getR (T := TX7) (p0 := 0) hc in_X7 rfl (by decide) (rfl : kd 0 = 7) 6 (by decide) tw_246 rfl rfl dX7_rest_86 ?_
      refine x_iconst (v := 4) hc rfl dX7_rest_89 ?_
      refine x_iconst (v := 0) hc rfl dX7_rest_90 ?_
      obtain ⟨G21, r22, hf⟩ := bj1_ok hf
      refine x_callVv (As := [.int 4, .int 0]) (p0 := 17) (T := TX0) hc (c_X0_heat (kl K) (kV K) 17 4 0 G19 G21 r22) mw_X0_heat tw_557 (sh_X7_trial (rfl : kd 0 = 7)) (by decide) rfl rfl (Nat.le_of_ble_eq_true rfl) ⟨Nat.le_of_ble_eq_true rfl, Nat.le_of_ble_eq_true rfl⟩ dX7_rest_91 rfl ?_
      refine x_aload_n hc 0 dX7_rest_94 rfl rfl ?_
      refine x_getR (T := TX7) (p0 := 0) hc in_X7 rfl (by decide) (rfl : kd 0 = 7) 6 (by decide) tw_246 rfl rfl dX7_rest_95 ?_
      obtain ⟨x23, r24, hf⟩ := bj1_ok hf
      refine x_callVr (As := []) (p0 := 17) (v := (.int x23)) (T := TX0) hc (c_X0_lossNow (kl K) (kV K) 17 G21 x23 r24) mw_X0_lossNow tw_541 (sh_X7_trial (rfl : kd 0 = 7)) (by decide) rfl rfl (Nat.le_of_ble_eq_true rfl) ⟨Nat.le_of_ble_eq_true rfl, Nat.le_of_ble_eq_true rfl⟩ dX7_rest_98 rfl ?_
      refine x_iload hc 2 dX7_rest_101 rfl ?_
      obtain ⟨x28, x29, hr, hf⟩ := bj2_ok hf
      have hj_119_25 : X K 119 [(0, .ref (kad K 0)), (5, .int x28), (6, .int x29), (7, .int v18)] [] G21 := by
        clear hr
        refine x_iinc (v := v18 + 1) (L' := [(0, .ref (kad K 0)), (5, .int x28), (6, .int x29), (7, .int (v18 + 1))]) hc 3 [1, 2, 3, 0] dX7_rest_119 rfl rfl (by decide) rfl ?_
        refine x_goto (tgt := 78) hc dX7_rest_122 rfl ?_
        exact x_sub [0, 1, 2, 3] (ih _ _ _ _ _ _ _ hf hk) rfl
      replace hf := hr
      clear hr
      refine x_icmp_ge (tgt := 119) hc dX7_rest_103 rfl (fun c_103 => ?_) (fun c_103 => ?_)
      · replace hf := if_p hf c_103
        cases hf
        exact x_sub [0, 1, 2, 3] hj_119_25 rfl
      · replace hf := if_n hf c_103
        refine x_aload_n hc 0 dX7_rest_106 rfl rfl ?_
        refine x_getR (T := TX7) (p0 := 0) hc in_X7 rfl (by decide) (rfl : kd 0 = 7) 6 (by decide) tw_246 rfl rfl dX7_rest_107 ?_
        obtain ⟨x26, r27, hf⟩ := bj1_ok hf
        refine x_callVr (As := []) (p0 := 17) (v := (.int x26)) (T := TX0) hc (c_X0_lossNow (kl K) (kV K) 17 G21 x26 r27) mw_X0_lossNow tw_541 (sh_X7_trial (rfl : kd 0 = 7)) (by decide) rfl rfl (Nat.le_of_ble_eq_true rfl) ⟨Nat.le_of_ble_eq_true rfl, Nat.le_of_ble_eq_true rfl⟩ dX7_rest_110 rfl ?_
        refine x_istore (L' := [(0, .ref (kad K 0)), (6, .int x26), (7, .int v18)]) hc [1, 0, 3] dX7_rest_113 (by decide) rfl ?_
        refine x_iload hc 2 dX7_rest_115 rfl ?_
        refine x_istore (L' := [(0, .ref (kad K 0)), (5, .int v18), (6, .int x26), (7, .int v18)]) hc [1, 0, 2, 3] dX7_rest_117 (by decide) rfl ?_
        cases hf
        exact x_sub [0, 1, 2, 3] hj_119_25 rfl
set_option maxHeartbeats 4000000 in
set_option maxRecDepth 100000 in
theorem c_X7_rest (l : Launch) (V : VT) (a1 : Int32) (a2 : Int32) (G : G_) (r : Int32) (G' : G_) (hf : f_X7_rest a1 a2 G = some (r, G')) : MC l V yX7_rest cX7_rest 8 (some .int) 5 117 [.ref (V.2.2.1 0), .int a1, .int a2] G (some (.int r)) G' := by
  refine mc_of (by decide) (Nat.le_of_ble_eq_true rfl) (fun K hV ho hc hkl => ?_)
  subst hV
  replace hc : Ok K cX7_rest RX7 (Cond.code yX7_rest cX7_rest 8 (some .int) :: TB) (some .int) 5 117 8 := hc
  replace ho : Rets K (some (.int r)) G' := ho
  show X K 0 [(0, .ref (kad K 0)), (1, .int a1), (2, .int a2)] [] G
  unfold f_X7_rest at hf
  refine x_aload_n hc 0 dX7_rest_0 rfl rfl ?_
  refine x_iload_n hc 1 dX7_rest_1 rfl rfl ?_
  obtain ⟨o1, r2, hf⟩ := bj1_ok hf
  refine x_callVr (As := [.int a1]) (p0 := 0) (v := (rfo K o1)) (T := TX7) hc (c_X7_slabAt (kl K) (kV K) a1 G o1 r2) mw_X7_slabAt tw_382 (rfl : kd 0 = 7) (by decide) rfl rfl (Nat.le_of_ble_eq_true rfl) ⟨Nat.le_of_ble_eq_true rfl, Nat.le_of_ble_eq_true rfl⟩ dX7_rest_2 rfl ?_
  refine x_astore_nO (L' := [(0, .ref (kad K 0)), (2, .int a2), (3, rfo K o1)]) hc [1, 3, 0] dX7_rest_5 rfl (by decide) rfl ?_
  refine x_aload_n hc 0 dX7_rest_6 rfl rfl ?_
  refine x_iload_n hc 1 dX7_rest_7 rfl rfl ?_
  obtain ⟨o3, r4, hf⟩ := bj1_ok hf
  refine x_callVr (As := [.int a2]) (p0 := 0) (v := (rfo K o3)) (T := TX7) hc (c_X7_planAt (kl K) (kV K) a2 G o3 r4) mw_X7_planAt tw_302 (rfl : kd 0 = 7) (by decide) rfl rfl (Nat.le_of_ble_eq_true rfl) ⟨Nat.le_of_ble_eq_true rfl, Nat.le_of_ble_eq_true rfl⟩ dX7_rest_8 rfl ?_
  refine x_astoreO (L' := [(0, .ref (kad K 0)), (3, rfo K o1), (4, rfo K o3)]) hc [1, 3, 0] dX7_rest_11 (by decide) (by cases o1 <;> rfl) ?_
  refine x_aload_nO hc 1 dX7_rest_13 rfl rfl ?_
  cases o1 with
  | none =>
    replace hf := mo_n hf
    show X K 14 [(0, .ref (kad K 0)), (3, .null), (4, rfo K o3)] [.null] G
    refine x_ifnullN (tgt := 22) hc dX7_rest_14 rfl ?_
    refine x_iconst (v := (-1)) hc rfl dX7_rest_22 ?_
    cases hf
    exact x_iret hc rfl ho dX7_rest_23
  | some p5 =>
    replace hf := mo_s hf
    obtain ⟨k6, hf⟩ := chk_ok hf
    show X K 14 [(0, .ref (kad K 0)), (3, .ref (kad K p5)), (4, rfo K o3)] [.ref (kad K p5)] G
    refine x_ifnullR hc dX7_rest_14 ?_
    refine x_aloadO hc 2 dX7_rest_17 rfl ?_
    cases o3 with
    | none =>
      replace hf := mo_n hf
      show X K 19 [(0, .ref (kad K 0)), (3, .ref (kad K p5)), (4, .null)] [.null] G
      refine x_ifnonnullN hc dX7_rest_19 ?_
      refine x_iconst (v := (-1)) hc rfl dX7_rest_22 ?_
      cases hf
      exact x_iret hc rfl ho dX7_rest_23
    | some p7 =>
      replace hf := mo_s hf
      obtain ⟨k8, hf⟩ := chk_ok hf
      show X K 19 [(0, .ref (kad K 0)), (3, .ref (kad K p5)), (4, .ref (kad K p7))] [.ref (kad K p7)] G
      refine x_ifnonnullR (tgt := 24) hc dX7_rest_19 rfl ?_
      refine x_aload_n hc 1 dX7_rest_24 rfl rfl ?_
      refine x_getI (T := TX5) (p0 := p5) hc in_X5 rfl (by decide) (kdb k6) 0 (by decide) tw_169 rfl rfl dX7_rest_25 ?_
      refine x_if_eq (tgt := 39) hc dX7_rest_28 rfl (fun c_28 => ?_) (fun c_28 => ?_)
      · replace hf := if_p hf c_28
        refine x_aload_n hc 0 dX7_rest_39 rfl rfl ?_
        refine x_iconst (v := 1) hc rfl dX7_rest_40 ?_
        obtain ⟨x10, G9, r11, hf⟩ := bj2_ok hf
        refine x_callVr (As := [.int 1]) (p0 := 0) (v := (.int x10)) (T := TX7) hc (c_X7_found (kl K) (kV K) 1 G x10 G9 r11) mw_X7_found tw_314 (rfl : kd 0 = 7) (by decide) rfl rfl (Nat.le_of_ble_eq_true rfl) ⟨Nat.le_of_ble_eq_true rfl, Nat.le_of_ble_eq_true rfl⟩ dX7_rest_41 rfl ?_
        cases hf
        exact x_iret hc rfl ho dX7_rest_44
      · replace hf := if_n hf c_28
        refine x_aload hc 2 dX7_rest_31 rfl ?_
        refine x_getI (T := TX2) (p0 := p7) hc in_X2 rfl (by decide) (kdb k8) 3 (by decide) tw_70 rfl rfl dX7_rest_33 ?_
        refine x_if_ne (tgt := 45) hc dX7_rest_36 rfl (fun c_36 => ?_) (fun c_36 => ?_)
        · replace hf := if_n hf c_36
          refine x_aload_n hc 0 dX7_rest_45 rfl rfl ?_
          refine x_getR (T := TX7) (p0 := 0) hc in_X7 rfl (by decide) (rfl : kd 0 = 7) 6 (by decide) tw_246 rfl rfl dX7_rest_46 ?_
          refine x_aload_n hc 1 dX7_rest_49 rfl rfl ?_
          refine x_aload_n hc 1 dX7_rest_50 rfl rfl ?_
          refine x_getI (T := TX5) (p0 := p5) hc in_X5 rfl (by decide) (kdb k6) 1 (by decide) tw_173 rfl rfl dX7_rest_51 ?_
          refine x_aload_n hc 1 dX7_rest_54 rfl rfl ?_
          refine x_getI (T := TX5) (p0 := p5) hc in_X5 rfl (by decide) (kdb k6) 3 (by decide) tw_180 rfl rfl dX7_rest_55 ?_
          refine x_aload hc 2 dX7_rest_58 rfl ?_
          obtain ⟨G12, r13, hf⟩ := bj1_ok hf
          refine x_callVv (As := [.ref (kad K p5), .int (G.1 p5 1), .int (G.1 p5 3), .ref (kad K p7)]) (p0 := 17) (T := TX0) hc (c_X0_makeByPlan (kl K) (kV K) 17 p5 (G.1 p5 1) (G.1 p5 3) p7 G G12 r13) mw_X0_makeByPlan tw_562 (sh_X7_trial (rfl : kd 0 = 7)) (by decide) rfl rfl (Nat.le_of_ble_eq_true rfl) ⟨Nat.le_of_ble_eq_true rfl, Nat.le_of_ble_eq_true rfl⟩ dX7_rest_60 rfl ?_
          refine x_iconst (v := 0) hc rfl dX7_rest_63 ?_
          refine x_istore (L' := [(0, .ref (kad K 0)), (5, .int 0)]) hc [1, 0] dX7_rest_64 (by decide) rfl ?_
          refine x_aload_n hc 0 dX7_rest_66 rfl rfl ?_
          refine x_getR (T := TX7) (p0 := 0) hc in_X7 rfl (by decide) (rfl : kd 0 = 7) 6 (by decide) tw_246 rfl rfl dX7_rest_67 ?_
          obtain ⟨x14, r15, hf⟩ := bj1_ok hf
          refine x_callVr (As := []) (p0 := 17) (v := (.int x14)) (T := TX0) hc (c_X0_lossNow (kl K) (kV K) 17 G12 x14 r15) mw_X0_lossNow tw_541 (sh_X7_trial (rfl : kd 0 = 7)) (by decide) rfl rfl (Nat.le_of_ble_eq_true rfl) ⟨Nat.le_of_ble_eq_true rfl, Nat.le_of_ble_eq_true rfl⟩ dX7_rest_70 rfl ?_
          refine x_istore (L' := [(0, .ref (kad K 0)), (5, .int 0), (6, .int x14)]) hc [1, 2, 0] dX7_rest_73 (by decide) rfl ?_
          refine x_iconst (v := 1) hc rfl dX7_rest_75 ?_
          refine x_istore (L' := [(0, .ref (kad K 0)), (5, .int 0), (6, .int x14), (7, .int 1)]) hc [1, 2, 3, 0] dX7_rest_76 (by decide) rfl ?_
          obtain ⟨x30, x31, G32, hl_78, hf⟩ := bj3_ok hf
          have he_125_n20 : X K 125 [(0, .ref (kad K 0)), (5, .int x30), (6, .int x31)] [] G32 := by
            clear hl_78
            refine x_aload_n hc 0 dX7_rest_125 rfl rfl ?_
            refine x_iload hc 1 dX7_rest_126 rfl ?_
            refine x_iload hc 2 dX7_rest_128 rfl ?_
            obtain ⟨x34, G33, r35, hf⟩ := bj2_ok hf
            refine x_callVr (As := [.int x30, .int x31]) (p0 := 0) (v := (.int x34)) (T := TX7) hc (c_X7_told (kl K) (kV K) x30 x31 G32 x34 G33 r35) mw_X7_told tw_457 (rfl : kd 0 = 7) (by decide) rfl rfl (Nat.le_of_ble_eq_true rfl) ⟨Nat.le_of_ble_eq_true rfl, Nat.le_of_ble_eq_true rfl⟩ dX7_rest_130 rfl ?_
            cases hf
            exact x_iret hc rfl ho dX7_rest_133
          exact x_sub [0, 1, 2, 3] (c_X7_rest_l78_20  hc  FU 0 x14 1 G12 x30 x31 G32 hl_78 he_125_n20) rfl
        · replace hf := if_p hf c_36
          refine x_aload_n hc 0 dX7_rest_39 rfl rfl ?_
          refine x_iconst (v := 1) hc rfl dX7_rest_40 ?_
          obtain ⟨x37, G36, r38, hf⟩ := bj2_ok hf
          refine x_callVr (As := [.int 1]) (p0 := 0) (v := (.int x37)) (T := TX7) hc (c_X7_found (kl K) (kV K) 1 G x37 G36 r38) mw_X7_found tw_314 (rfl : kd 0 = 7) (by decide) rfl rfl (Nat.le_of_ble_eq_true rfl) ⟨Nat.le_of_ble_eq_true rfl, Nat.le_of_ble_eq_true rfl⟩ dX7_rest_41 rfl ?_
          cases hf
          exact x_iret hc rfl ho dX7_rest_44
def f_X7_salt_l54_16 (p5 : Nat) (p7 : Nat) : Nat → Int32 → Int32 → Int32 → G_ → Option (Int32 × Int32 × G_)
  | 0, _, _, _, _ => none
  | n16 + 1, v12, v13, v14, G15 =>
    if 60 < v14 then (
      some (v12, v13, G15))
    else (
      bj1 (f_X0_makeByPlan 17 p5 (G15.1 p5 1) v14 p7 G15) fun G17 =>
      bj1 (f_X0_crust 17 G17) fun x19 =>
      bj2 (
        if x19 ≤ v13 then (
          some (v12, v13))
        else (
          bj1 (f_X0_crust 17 G17) fun x22 =>
          some (v14, x22))) fun (x24 : Int32) (x25 : Int32) =>
      f_X7_salt_l54_16 p5 p7 n16 x24 x25 (v14 + 1) G17)
def f_X7_salt (a1 : Int32) (a2 : Int32) (G : G_) : Option (Int32 × G_) :=
  bj1 (f_X7_slabAt a1 G) fun o1 =>
  bj1 (f_X7_planAt a2 G) fun o3 =>
  mo o1 (
    some ((-1), G)) (fun p5 =>
    chk (kd p5 == 5) <|
    mo o3 (
      some ((-1), G)) (fun p7 =>
      chk (kd p7 == 2) <|
      if G.1 p5 0 = 0 then (
        bj2 (f_X7_found 1 G) fun x10 G9 =>
        some (x10, G9))
      else (
        if G.1 p7 3 = 0 then (
          bj2 (f_X7_found 1 G) fun x33 G32 =>
          some (x33, G32))
        else (
          bj3 (f_X7_salt_l54_16 p5 p7 FU 0 (-1) 0 G) fun x26 x27 G28 =>
          bj2 (f_X7_told x26 x27 G28) fun x30 G29 =>
          some (x30, G29)))))
set_option maxHeartbeats 4000000 in
set_option maxRecDepth 100000 in
theorem c_X7_salt_l54_16 {K : CT} (p5 : Nat) (p7 : Nat) (hc : Ok K cX7_salt RX7 (Cond.code yX7_salt cX7_salt 8 (some .int) :: TB) (some .int) 5 117 8) (k6 : (kd p5 == 5) = true) : ∀ (n16 : Nat) (v12 : Int32) (v13 : Int32) (v14 : Int32) (G15 : G_) (x26 : Int32) (x27 : Int32) (G28 : G_), f_X7_salt_l54_16 p5 p7 n16 v12 v13 v14 G15 = some (x26, x27, G28) → X K 108 [(0, .ref (kad K 0)), (5, .int x26), (6, .int x27)] [] G28 → X K 54 [(0, .ref (kad K 0)), (3, .ref (kad K p5)), (4, .ref (kad K p7)), (5, .int v12), (6, .int v13), (7, .int v14)] [] G15 := by
  intro n16
  induction n16 with
  | zero =>
    intro v12 v13 v14 G15 x26 x27 G28 hf hk
    cases hf
  | succ n16 ih =>
    intro v12 v13 v14 G15 x26 x27 G28 hf hk
    unfold f_X7_salt_l54_16 at hf
    refine x_iload hc 5 dX7_salt_54 rfl ?_
    refine x_bipush (v := 60) hc rfl dX7_salt_56 ?_
    refine x_icmp_gt (tgt := 108) hc dX7_salt_58 rfl (fun c_58 => ?_) (fun c_58 => ?_)
    · replace hf := if_p hf c_58
      cases hf
      exact x_sub [0, 3, 4] hk rfl
    · replace hf := if_n hf c_58
      refine x_aload_n hc 0 dX7_salt_61 rfl rfl ?_
      refine x_getR (T := TX7) (p0 := 0) hc in_X7 rfl (by decide) (rfl : kd 0 = 7) 6 (by decide) tw_246 rfl rfl dX7_salt_62 ?_
      refine x_aload_n hc 1 dX7_salt_65 rfl rfl ?_
      refine x_aload_n hc 1 dX7_salt_66 rfl rfl ?_
      refine x_getI (T := TX5) (p0 := p5) hc in_X5 rfl (by decide) (kdb k6) 1 (by decide) tw_173 rfl rfl dX7_salt_67 ?_
      refine x_iload hc 5 dX7_salt_70 rfl ?_
      refine x_aload hc 2 dX7_salt_72 rfl ?_
      obtain ⟨G17, r18, hf⟩ := bj1_ok hf
      refine x_callVv (As := [.ref (kad K p5), .int (G15.1 p5 1), .int v14, .ref (kad K p7)]) (p0 := 17) (T := TX0) hc (c_X0_makeByPlan (kl K) (kV K) 17 p5 (G15.1 p5 1) v14 p7 G15 G17 r18) mw_X0_makeByPlan tw_562 (sh_X7_trial (rfl : kd 0 = 7)) (by decide) rfl rfl (Nat.le_of_ble_eq_true rfl) ⟨Nat.le_of_ble_eq_true rfl, Nat.le_of_ble_eq_true rfl⟩ dX7_salt_74 rfl ?_
      refine x_aload_n hc 0 dX7_salt_77 rfl rfl ?_
      refine x_getR (T := TX7) (p0 := 0) hc in_X7 rfl (by decide) (rfl : kd 0 = 7) 6 (by decide) tw_246 rfl rfl dX7_salt_78 ?_
      obtain ⟨x19, r20, hf⟩ := bj1_ok hf
      refine x_callVr (As := []) (p0 := 17) (v := (.int x19)) (T := TX0) hc (c_X0_crust (kl K) (kV K) 17 G17 x19 r20) mw_X0_crust tw_781 (sh_X7_trial (rfl : kd 0 = 7)) (by decide) rfl rfl (Nat.le_of_ble_eq_true rfl) ⟨Nat.le_of_ble_eq_true rfl, Nat.le_of_ble_eq_true rfl⟩ dX7_salt_81 rfl ?_
      refine x_iload hc 4 dX7_salt_84 rfl ?_
      obtain ⟨x24, x25, hr, hf⟩ := bj2_ok hf
      have hj_102_21 : X K 102 [(0, .ref (kad K 0)), (3, .ref (kad K p5)), (4, .ref (kad K p7)), (5, .int x24), (6, .int x25), (7, .int v14)] [] G17 := by
        clear hr
        refine x_iinc (v := v14 + 1) (L' := [(0, .ref (kad K 0)), (3, .ref (kad K p5)), (4, .ref (kad K p7)), (5, .int x24), (6, .int x25), (7, .int (v14 + 1))]) hc 5 [1, 2, 3, 4, 5, 0] dX7_salt_102 rfl rfl (by decide) rfl ?_
        refine x_goto (tgt := 54) hc dX7_salt_105 rfl ?_
        exact x_sub [0, 1, 2, 3, 4, 5] (ih _ _ _ _ _ _ _ hf hk) rfl
      replace hf := hr
      clear hr
      refine x_icmp_le (tgt := 102) hc dX7_salt_86 rfl (fun c_86 => ?_) (fun c_86 => ?_)
      · replace hf := if_p hf c_86
        cases hf
        exact x_sub [0, 1, 2, 3, 4, 5] hj_102_21 rfl
      · replace hf := if_n hf c_86
        refine x_aload_n hc 0 dX7_salt_89 rfl rfl ?_
        refine x_getR (T := TX7) (p0 := 0) hc in_X7 rfl (by decide) (rfl : kd 0 = 7) 6 (by decide) tw_246 rfl rfl dX7_salt_90 ?_
        obtain ⟨x22, r23, hf⟩ := bj1_ok hf
        refine x_callVr (As := []) (p0 := 17) (v := (.int x22)) (T := TX0) hc (c_X0_crust (kl K) (kV K) 17 G17 x22 r23) mw_X0_crust tw_781 (sh_X7_trial (rfl : kd 0 = 7)) (by decide) rfl rfl (Nat.le_of_ble_eq_true rfl) ⟨Nat.le_of_ble_eq_true rfl, Nat.le_of_ble_eq_true rfl⟩ dX7_salt_93 rfl ?_
        refine x_istore (L' := [(0, .ref (kad K 0)), (3, .ref (kad K p5)), (4, .ref (kad K p7)), (6, .int x22), (7, .int v14)]) hc [1, 2, 3, 0, 5] dX7_salt_96 (by decide) rfl ?_
        refine x_iload hc 4 dX7_salt_98 rfl ?_
        refine x_istore (L' := [(0, .ref (kad K 0)), (3, .ref (kad K p5)), (4, .ref (kad K p7)), (5, .int v14), (6, .int x22), (7, .int v14)]) hc [1, 2, 3, 0, 4, 5] dX7_salt_100 (by decide) rfl ?_
        cases hf
        exact x_sub [0, 1, 2, 3, 4, 5] hj_102_21 rfl
set_option maxHeartbeats 4000000 in
set_option maxRecDepth 100000 in
theorem c_X7_salt (l : Launch) (V : VT) (a1 : Int32) (a2 : Int32) (G : G_) (r : Int32) (G' : G_) (hf : f_X7_salt a1 a2 G = some (r, G')) : MC l V yX7_salt cX7_salt 8 (some .int) 5 117 [.ref (V.2.2.1 0), .int a1, .int a2] G (some (.int r)) G' := by
  refine mc_of (by decide) (Nat.le_of_ble_eq_true rfl) (fun K hV ho hc hkl => ?_)
  subst hV
  replace hc : Ok K cX7_salt RX7 (Cond.code yX7_salt cX7_salt 8 (some .int) :: TB) (some .int) 5 117 8 := hc
  replace ho : Rets K (some (.int r)) G' := ho
  show X K 0 [(0, .ref (kad K 0)), (1, .int a1), (2, .int a2)] [] G
  unfold f_X7_salt at hf
  refine x_aload_n hc 0 dX7_salt_0 rfl rfl ?_
  refine x_iload_n hc 1 dX7_salt_1 rfl rfl ?_
  obtain ⟨o1, r2, hf⟩ := bj1_ok hf
  refine x_callVr (As := [.int a1]) (p0 := 0) (v := (rfo K o1)) (T := TX7) hc (c_X7_slabAt (kl K) (kV K) a1 G o1 r2) mw_X7_slabAt tw_382 (rfl : kd 0 = 7) (by decide) rfl rfl (Nat.le_of_ble_eq_true rfl) ⟨Nat.le_of_ble_eq_true rfl, Nat.le_of_ble_eq_true rfl⟩ dX7_salt_2 rfl ?_
  refine x_astore_nO (L' := [(0, .ref (kad K 0)), (2, .int a2), (3, rfo K o1)]) hc [1, 3, 0] dX7_salt_5 rfl (by decide) rfl ?_
  refine x_aload_n hc 0 dX7_salt_6 rfl rfl ?_
  refine x_iload_n hc 1 dX7_salt_7 rfl rfl ?_
  obtain ⟨o3, r4, hf⟩ := bj1_ok hf
  refine x_callVr (As := [.int a2]) (p0 := 0) (v := (rfo K o3)) (T := TX7) hc (c_X7_planAt (kl K) (kV K) a2 G o3 r4) mw_X7_planAt tw_302 (rfl : kd 0 = 7) (by decide) rfl rfl (Nat.le_of_ble_eq_true rfl) ⟨Nat.le_of_ble_eq_true rfl, Nat.le_of_ble_eq_true rfl⟩ dX7_salt_8 rfl ?_
  refine x_astoreO (L' := [(0, .ref (kad K 0)), (3, rfo K o1), (4, rfo K o3)]) hc [1, 3, 0] dX7_salt_11 (by decide) (by cases o1 <;> rfl) ?_
  refine x_aload_nO hc 1 dX7_salt_13 rfl rfl ?_
  cases o1 with
  | none =>
    replace hf := mo_n hf
    show X K 14 [(0, .ref (kad K 0)), (3, .null), (4, rfo K o3)] [.null] G
    refine x_ifnullN (tgt := 22) hc dX7_salt_14 rfl ?_
    refine x_iconst (v := (-1)) hc rfl dX7_salt_22 ?_
    cases hf
    exact x_iret hc rfl ho dX7_salt_23
  | some p5 =>
    replace hf := mo_s hf
    obtain ⟨k6, hf⟩ := chk_ok hf
    show X K 14 [(0, .ref (kad K 0)), (3, .ref (kad K p5)), (4, rfo K o3)] [.ref (kad K p5)] G
    refine x_ifnullR hc dX7_salt_14 ?_
    refine x_aloadO hc 2 dX7_salt_17 rfl ?_
    cases o3 with
    | none =>
      replace hf := mo_n hf
      show X K 19 [(0, .ref (kad K 0)), (3, .ref (kad K p5)), (4, .null)] [.null] G
      refine x_ifnonnullN hc dX7_salt_19 ?_
      refine x_iconst (v := (-1)) hc rfl dX7_salt_22 ?_
      cases hf
      exact x_iret hc rfl ho dX7_salt_23
    | some p7 =>
      replace hf := mo_s hf
      obtain ⟨k8, hf⟩ := chk_ok hf
      show X K 19 [(0, .ref (kad K 0)), (3, .ref (kad K p5)), (4, .ref (kad K p7))] [.ref (kad K p7)] G
      refine x_ifnonnullR (tgt := 24) hc dX7_salt_19 rfl ?_
      refine x_aload_n hc 1 dX7_salt_24 rfl rfl ?_
      refine x_getI (T := TX5) (p0 := p5) hc in_X5 rfl (by decide) (kdb k6) 0 (by decide) tw_169 rfl rfl dX7_salt_25 ?_
      refine x_if_eq (tgt := 39) hc dX7_salt_28 rfl (fun c_28 => ?_) (fun c_28 => ?_)
      · replace hf := if_p hf c_28
        refine x_aload_n hc 0 dX7_salt_39 rfl rfl ?_
        refine x_iconst (v := 1) hc rfl dX7_salt_40 ?_
        obtain ⟨x10, G9, r11, hf⟩ := bj2_ok hf
        refine x_callVr (As := [.int 1]) (p0 := 0) (v := (.int x10)) (T := TX7) hc (c_X7_found (kl K) (kV K) 1 G x10 G9 r11) mw_X7_found tw_314 (rfl : kd 0 = 7) (by decide) rfl rfl (Nat.le_of_ble_eq_true rfl) ⟨Nat.le_of_ble_eq_true rfl, Nat.le_of_ble_eq_true rfl⟩ dX7_salt_41 rfl ?_
        cases hf
        exact x_iret hc rfl ho dX7_salt_44
      · replace hf := if_n hf c_28
        refine x_aload hc 2 dX7_salt_31 rfl ?_
        refine x_getI (T := TX2) (p0 := p7) hc in_X2 rfl (by decide) (kdb k8) 3 (by decide) tw_70 rfl rfl dX7_salt_33 ?_
        refine x_if_ne (tgt := 45) hc dX7_salt_36 rfl (fun c_36 => ?_) (fun c_36 => ?_)
        · replace hf := if_n hf c_36
          refine x_iconst (v := 0) hc rfl dX7_salt_45 ?_
          refine x_istore (L' := [(0, .ref (kad K 0)), (3, .ref (kad K p5)), (4, .ref (kad K p7)), (5, .int 0)]) hc [1, 2, 3, 0] dX7_salt_46 (by decide) rfl ?_
          refine x_iconst (v := (-1)) hc rfl dX7_salt_48 ?_
          refine x_istore (L' := [(0, .ref (kad K 0)), (3, .ref (kad K p5)), (4, .ref (kad K p7)), (5, .int 0), (6, .int (-1))]) hc [1, 2, 3, 4, 0] dX7_salt_49 (by decide) rfl ?_
          refine x_iconst (v := 0) hc rfl dX7_salt_51 ?_
          refine x_istore (L' := [(0, .ref (kad K 0)), (3, .ref (kad K p5)), (4, .ref (kad K p7)), (5, .int 0), (6, .int (-1)), (7, .int 0)]) hc [1, 2, 3, 4, 5, 0] dX7_salt_52 (by decide) rfl ?_
          obtain ⟨x26, x27, G28, hl_54, hf⟩ := bj3_ok hf
          have he_108_n16 : X K 108 [(0, .ref (kad K 0)), (5, .int x26), (6, .int x27)] [] G28 := by
            clear hl_54
            refine x_aload_n hc 0 dX7_salt_108 rfl rfl ?_
            refine x_iload hc 1 dX7_salt_109 rfl ?_
            refine x_iload hc 2 dX7_salt_111 rfl ?_
            obtain ⟨x30, G29, r31, hf⟩ := bj2_ok hf
            refine x_callVr (As := [.int x26, .int x27]) (p0 := 0) (v := (.int x30)) (T := TX7) hc (c_X7_told (kl K) (kV K) x26 x27 G28 x30 G29 r31) mw_X7_told tw_457 (rfl : kd 0 = 7) (by decide) rfl rfl (Nat.le_of_ble_eq_true rfl) ⟨Nat.le_of_ble_eq_true rfl, Nat.le_of_ble_eq_true rfl⟩ dX7_salt_113 rfl ?_
            cases hf
            exact x_iret hc rfl ho dX7_salt_116
          exact x_sub [0, 1, 2, 3, 4, 5] (c_X7_salt_l54_16 p5 p7 hc k6 FU 0 (-1) 0 G x26 x27 G28 hl_54 he_108_n16) rfl
        · replace hf := if_p hf c_36
          refine x_aload_n hc 0 dX7_salt_39 rfl rfl ?_
          refine x_iconst (v := 1) hc rfl dX7_salt_40 ?_
          obtain ⟨x33, G32, r34, hf⟩ := bj2_ok hf
          refine x_callVr (As := [.int 1]) (p0 := 0) (v := (.int x33)) (T := TX7) hc (c_X7_found (kl K) (kV K) 1 G x33 G32 r34) mw_X7_found tw_314 (rfl : kd 0 = 7) (by decide) rfl rfl (Nat.le_of_ble_eq_true rfl) ⟨Nat.le_of_ble_eq_true rfl, Nat.le_of_ble_eq_true rfl⟩ dX7_salt_41 rfl ?_
          cases hf
          exact x_iret hc rfl ho dX7_salt_44
def f_X7_thick_l67_18 (a3 : Int32) (a4 : Int32) (p5 : Nat) (p7 : Nat) : Nat → Int32 → Int32 → Int32 → G_ → Option (Int32 × Int32 × G_)
  | 0, _, _, _, _ => none
  | n18 + 1, v14, v15, v16, G17 =>
    if 20 < v16 then (
      some (v14, v15, G17))
    else (
      bj1 (f_X0_makeByPlan 17 p5 v16 (G17.1 p5 3) p7 G17) fun G19 =>
      bj1 (f_X0_middleMost 17 G19) fun x21 =>
      bj1 (f_X7_within x21 a3 a4) fun x23 =>
      if x23 = 0 then (
        f_X7_thick_l67_18 a3 a4 p5 p7 n18 v14 v15 (v16 + 1) G19)
      else (
        bj1 (
          if v15 = (-9) then (
            some (v16))
          else (
            some (v15))) fun (x29 : Int32) =>
        f_X7_thick_l67_18 a3 a4 p5 p7 n18 (v14 + 1) x29 (v16 + 1) G19))
def f_X7_thick (a1 : Int32) (a2 : Int32) (a3 : Int32) (a4 : Int32) (G : G_) : Option (Int32 × G_) :=
  bj1 (f_X7_slabAt a1 G) fun o1 =>
  bj1 (f_X7_planAt a2 G) fun o3 =>
  mo o1 (
    some ((-1), G)) (fun p5 =>
    chk (kd p5 == 5) <|
    mo o3 (
      some ((-1), G)) (fun p7 =>
      chk (kd p7 == 2) <|
      bj1 (f_X7_isSpan a3 a4) fun x9 =>
      if x9 = 0 then (
        some ((-1), G))
      else (
        if G.1 p5 0 = 0 then (
          bj2 (f_X7_found 1 G) fun x12 G11 =>
          some (x12, G11))
        else (
          if G.1 p7 3 = 0 then (
            bj2 (f_X7_found 1 G) fun x37 G36 =>
            some (x37, G36))
          else (
            bj3 (f_X7_thick_l67_18 a3 a4 p5 p7 FU 0 (-9) 3 G) fun x30 x31 G32 =>
            bj2 (f_X7_told x30 x31 G32) fun x34 G33 =>
            some (x34, G33))))))
set_option maxHeartbeats 4000000 in
set_option maxRecDepth 100000 in
theorem c_X7_thick_l67_18 {K : CT} (a3 : Int32) (a4 : Int32) (p5 : Nat) (p7 : Nat) (hc : Ok K cX7_thick RX7 (Cond.code yX7_thick cX7_thick 10 (some .int) :: TB) (some .int) 5 117 10) (k6 : (kd p5 == 5) = true) : ∀ (n18 : Nat) (v14 : Int32) (v15 : Int32) (v16 : Int32) (G17 : G_) (x30 : Int32) (x31 : Int32) (G32 : G_), f_X7_thick_l67_18 a3 a4 p5 p7 n18 v14 v15 v16 G17 = some (x30, x31, G32) → X K 133 [(0, .ref (kad K 0)), (7, .int x30), (8, .int x31)] [] G32 → X K 67 [(0, .ref (kad K 0)), (3, .int a3), (4, .int a4), (5, .ref (kad K p5)), (6, .ref (kad K p7)), (7, .int v14), (8, .int v15), (9, .int v16)] [] G17 := by
  intro n18
  induction n18 with
  | zero =>
    intro v14 v15 v16 G17 x30 x31 G32 hf hk
    cases hf
  | succ n18 ih =>
    intro v14 v15 v16 G17 x30 x31 G32 hf hk
    unfold f_X7_thick_l67_18 at hf
    refine x_iload hc 7 dX7_thick_67 rfl ?_
    refine x_bipush (v := 20) hc rfl dX7_thick_69 ?_
    refine x_icmp_gt (tgt := 133) hc dX7_thick_71 rfl (fun c_71 => ?_) (fun c_71 => ?_)
    · replace hf := if_p hf c_71
      cases hf
      exact x_sub [0, 5, 6] hk rfl
    · replace hf := if_n hf c_71
      refine x_aload_n hc 0 dX7_thick_74 rfl rfl ?_
      refine x_getR (T := TX7) (p0 := 0) hc in_X7 rfl (by decide) (rfl : kd 0 = 7) 6 (by decide) tw_246 rfl rfl dX7_thick_75 ?_
      refine x_aload hc 3 dX7_thick_78 rfl ?_
      refine x_iload hc 7 dX7_thick_80 rfl ?_
      refine x_aload hc 3 dX7_thick_82 rfl ?_
      refine x_getI (T := TX5) (p0 := p5) hc in_X5 rfl (by decide) (kdb k6) 3 (by decide) tw_180 rfl rfl dX7_thick_84 ?_
      refine x_aload hc 4 dX7_thick_87 rfl ?_
      obtain ⟨G19, r20, hf⟩ := bj1_ok hf
      refine x_callVv (As := [.ref (kad K p5), .int v16, .int (G17.1 p5 3), .ref (kad K p7)]) (p0 := 17) (T := TX0) hc (c_X0_makeByPlan (kl K) (kV K) 17 p5 v16 (G17.1 p5 3) p7 G17 G19 r20) mw_X0_makeByPlan tw_562 (sh_X7_trial (rfl : kd 0 = 7)) (by decide) rfl rfl (Nat.le_of_ble_eq_true rfl) ⟨Nat.le_of_ble_eq_true rfl, Nat.le_of_ble_eq_true rfl⟩ dX7_thick_89 rfl ?_
      refine x_aload_n hc 0 dX7_thick_92 rfl rfl ?_
      refine x_getR (T := TX7) (p0 := 0) hc in_X7 rfl (by decide) (rfl : kd 0 = 7) 6 (by decide) tw_246 rfl rfl dX7_thick_93 ?_
      obtain ⟨x21, r22, hf⟩ := bj1_ok hf
      refine x_callVr (As := []) (p0 := 17) (v := (.int x21)) (T := TX0) hc (c_X0_middleMost (kl K) (kV K) 17 G19 x21 r22) mw_X0_middleMost tw_789 (sh_X7_trial (rfl : kd 0 = 7)) (by decide) rfl rfl (Nat.le_of_ble_eq_true rfl) ⟨Nat.le_of_ble_eq_true rfl, Nat.le_of_ble_eq_true rfl⟩ dX7_thick_96 rfl ?_
      refine x_iload_n hc 1 dX7_thick_99 rfl rfl ?_
      refine x_iload hc 2 dX7_thick_100 rfl ?_
      obtain ⟨x23, r24, hf⟩ := bj1_ok hf
      refine x_callSr (As := [.int x21, .int a3, .int a4]) (v := (.int x23)) hc (c_X7_within (kl K) (kV K) x21 a3 a4 G19 x23 r24) mw_X7_within tw_401 rfl (Nat.le_of_ble_eq_true rfl) ⟨Nat.le_of_ble_eq_true rfl, Nat.le_of_ble_eq_true rfl⟩ dX7_thick_102 rfl ?_
      refine x_if_eq (tgt := 127) hc dX7_thick_105 rfl (fun c_105 => ?_) (fun c_105 => ?_)
      · replace hf := if_p hf c_105
        refine x_iinc (v := v16 + 1) (L' := [(0, .ref (kad K 0)), (3, .int a3), (4, .int a4), (5, .ref (kad K p5)), (6, .ref (kad K p7)), (7, .int v14), (8, .int v15), (9, .int (v16 + 1))]) hc 7 [1, 2, 3, 4, 5, 6, 7, 0] dX7_thick_127 rfl rfl (by decide) rfl ?_
        refine x_goto (tgt := 67) hc dX7_thick_130 rfl ?_
        exact x_sub [0, 1, 2, 3, 4, 5, 6, 7] (ih _ _ _ _ _ _ _ hf hk) rfl
      · replace hf := if_n hf c_105
        refine x_iinc (v := v14 + 1) (L' := [(0, .ref (kad K 0)), (3, .int a3), (4, .int a4), (5, .ref (kad K p5)), (6, .ref (kad K p7)), (7, .int (v14 + 1)), (8, .int v15), (9, .int v16)]) hc 5 [1, 2, 3, 4, 5, 0, 6, 7] dX7_thick_108 rfl rfl (by decide) rfl ?_
        refine x_iload hc 6 dX7_thick_111 rfl ?_
        refine x_bipush (v := (-9)) hc rfl dX7_thick_113 ?_
        obtain ⟨x29, hr, hf⟩ := bj1_ok hf
        have hj_125_28 : X K 125 [(0, .ref (kad K 0)), (3, .int a3), (4, .int a4), (5, .ref (kad K p5)), (6, .ref (kad K p7)), (7, .int (v14 + 1)), (9, .int v16)] [.int x29] G19 := by
          clear hr
          refine x_istore (L' := [(0, .ref (kad K 0)), (3, .int a3), (4, .int a4), (5, .ref (kad K p5)), (6, .ref (kad K p7)), (7, .int (v14 + 1)), (8, .int x29), (9, .int v16)]) hc [1, 2, 3, 4, 5, 6, 0, 7] dX7_thick_125 (by decide) rfl ?_
          refine x_iinc (v := v16 + 1) (L' := [(0, .ref (kad K 0)), (3, .int a3), (4, .int a4), (5, .ref (kad K p5)), (6, .ref (kad K p7)), (7, .int (v14 + 1)), (8, .int x29), (9, .int (v16 + 1))]) hc 7 [1, 2, 3, 4, 5, 6, 7, 0] dX7_thick_127 rfl rfl (by decide) rfl ?_
          refine x_goto (tgt := 67) hc dX7_thick_130 rfl ?_
          exact x_sub [0, 1, 2, 3, 4, 5, 6, 7] (ih _ _ _ _ _ _ _ hf hk) rfl
        replace hf := hr
        clear hr
        refine x_icmp_ne (tgt := 123) hc dX7_thick_115 rfl (fun c_115 => ?_) (fun c_115 => ?_)
        · replace hf := if_n hf c_115
          refine x_iload hc 6 dX7_thick_123 rfl ?_
          cases hf
          exact x_sub [0, 1, 2, 3, 4, 5, 7] hj_125_28 rfl
        · replace hf := if_p hf c_115
          refine x_iload hc 7 dX7_thick_118 rfl ?_
          refine x_goto (tgt := 125) hc dX7_thick_120 rfl ?_
          cases hf
          exact x_sub [0, 1, 2, 3, 4, 5, 7] hj_125_28 rfl
set_option maxHeartbeats 4000000 in
set_option maxRecDepth 100000 in
theorem c_X7_thick (l : Launch) (V : VT) (a1 : Int32) (a2 : Int32) (a3 : Int32) (a4 : Int32) (G : G_) (r : Int32) (G' : G_) (hf : f_X7_thick a1 a2 a3 a4 G = some (r, G')) : MC l V yX7_thick cX7_thick 10 (some .int) 5 117 [.ref (V.2.2.1 0), .int a1, .int a2, .int a3, .int a4] G (some (.int r)) G' := by
  refine mc_of (by decide) (Nat.le_of_ble_eq_true rfl) (fun K hV ho hc hkl => ?_)
  subst hV
  replace hc : Ok K cX7_thick RX7 (Cond.code yX7_thick cX7_thick 10 (some .int) :: TB) (some .int) 5 117 10 := hc
  replace ho : Rets K (some (.int r)) G' := ho
  show X K 0 [(0, .ref (kad K 0)), (1, .int a1), (2, .int a2), (3, .int a3), (4, .int a4)] [] G
  unfold f_X7_thick at hf
  refine x_aload_n hc 0 dX7_thick_0 rfl rfl ?_
  refine x_iload_n hc 1 dX7_thick_1 rfl rfl ?_
  obtain ⟨o1, r2, hf⟩ := bj1_ok hf
  refine x_callVr (As := [.int a1]) (p0 := 0) (v := (rfo K o1)) (T := TX7) hc (c_X7_slabAt (kl K) (kV K) a1 G o1 r2) mw_X7_slabAt tw_382 (rfl : kd 0 = 7) (by decide) rfl rfl (Nat.le_of_ble_eq_true rfl) ⟨Nat.le_of_ble_eq_true rfl, Nat.le_of_ble_eq_true rfl⟩ dX7_thick_2 rfl ?_
  refine x_astoreO (L' := [(0, .ref (kad K 0)), (2, .int a2), (3, .int a3), (4, .int a4), (5, rfo K o1)]) hc [1, 3, 4, 5, 0] dX7_thick_5 (by decide) rfl ?_
  refine x_aload_n hc 0 dX7_thick_7 rfl rfl ?_
  refine x_iload_n hc 1 dX7_thick_8 rfl rfl ?_
  obtain ⟨o3, r4, hf⟩ := bj1_ok hf
  refine x_callVr (As := [.int a2]) (p0 := 0) (v := (rfo K o3)) (T := TX7) hc (c_X7_planAt (kl K) (kV K) a2 G o3 r4) mw_X7_planAt tw_302 (rfl : kd 0 = 7) (by decide) rfl rfl (Nat.le_of_ble_eq_true rfl) ⟨Nat.le_of_ble_eq_true rfl, Nat.le_of_ble_eq_true rfl⟩ dX7_thick_9 rfl ?_
  refine x_astoreO (L' := [(0, .ref (kad K 0)), (3, .int a3), (4, .int a4), (5, rfo K o1), (6, rfo K o3)]) hc [1, 3, 4, 5, 0] dX7_thick_12 (by decide) (by cases o1 <;> rfl) ?_
  refine x_aloadO hc 3 dX7_thick_14 rfl ?_
  cases o1 with
  | none =>
    replace hf := mo_n hf
    show X K 16 [(0, .ref (kad K 0)), (3, .int a3), (4, .int a4), (5, .null), (6, rfo K o3)] [.null] G
    refine x_ifnullN (tgt := 33) hc dX7_thick_16 rfl ?_
    refine x_iconst (v := (-1)) hc rfl dX7_thick_33 ?_
    cases hf
    exact x_iret hc rfl ho dX7_thick_34
  | some p5 =>
    replace hf := mo_s hf
    obtain ⟨k6, hf⟩ := chk_ok hf
    show X K 16 [(0, .ref (kad K 0)), (3, .int a3), (4, .int a4), (5, .ref (kad K p5)), (6, rfo K o3)] [.ref (kad K p5)] G
    refine x_ifnullR hc dX7_thick_16 ?_
    refine x_aloadO hc 4 dX7_thick_19 rfl ?_
    cases o3 with
    | none =>
      replace hf := mo_n hf
      show X K 21 [(0, .ref (kad K 0)), (3, .int a3), (4, .int a4), (5, .ref (kad K p5)), (6, .null)] [.null] G
      refine x_ifnullN (tgt := 33) hc dX7_thick_21 rfl ?_
      refine x_iconst (v := (-1)) hc rfl dX7_thick_33 ?_
      cases hf
      exact x_iret hc rfl ho dX7_thick_34
    | some p7 =>
      replace hf := mo_s hf
      obtain ⟨k8, hf⟩ := chk_ok hf
      show X K 21 [(0, .ref (kad K 0)), (3, .int a3), (4, .int a4), (5, .ref (kad K p5)), (6, .ref (kad K p7))] [.ref (kad K p7)] G
      refine x_ifnullR hc dX7_thick_21 ?_
      refine x_iload_n hc 1 dX7_thick_24 rfl rfl ?_
      refine x_iload hc 2 dX7_thick_25 rfl ?_
      obtain ⟨x9, r10, hf⟩ := bj1_ok hf
      refine x_callSr (As := [.int a3, .int a4]) (v := (.int x9)) hc (c_X7_isSpan (kl K) (kV K) a3 a4 G x9 r10) mw_X7_isSpan tw_485 rfl (Nat.le_of_ble_eq_true rfl) ⟨Nat.le_of_ble_eq_true rfl, Nat.le_of_ble_eq_true rfl⟩ dX7_thick_27 rfl ?_
      refine x_if_ne (tgt := 35) hc dX7_thick_30 rfl (fun c_30 => ?_) (fun c_30 => ?_)
      · replace hf := if_n hf c_30
        refine x_aload hc 3 dX7_thick_35 rfl ?_
        refine x_getI (T := TX5) (p0 := p5) hc in_X5 rfl (by decide) (kdb k6) 0 (by decide) tw_169 rfl rfl dX7_thick_37 ?_
        refine x_if_eq (tgt := 51) hc dX7_thick_40 rfl (fun c_40 => ?_) (fun c_40 => ?_)
        · replace hf := if_p hf c_40
          refine x_aload_n hc 0 dX7_thick_51 rfl rfl ?_
          refine x_iconst (v := 1) hc rfl dX7_thick_52 ?_
          obtain ⟨x12, G11, r13, hf⟩ := bj2_ok hf
          refine x_callVr (As := [.int 1]) (p0 := 0) (v := (.int x12)) (T := TX7) hc (c_X7_found (kl K) (kV K) 1 G x12 G11 r13) mw_X7_found tw_314 (rfl : kd 0 = 7) (by decide) rfl rfl (Nat.le_of_ble_eq_true rfl) ⟨Nat.le_of_ble_eq_true rfl, Nat.le_of_ble_eq_true rfl⟩ dX7_thick_53 rfl ?_
          cases hf
          exact x_iret hc rfl ho dX7_thick_56
        · replace hf := if_n hf c_40
          refine x_aload hc 4 dX7_thick_43 rfl ?_
          refine x_getI (T := TX2) (p0 := p7) hc in_X2 rfl (by decide) (kdb k8) 3 (by decide) tw_70 rfl rfl dX7_thick_45 ?_
          refine x_if_ne (tgt := 57) hc dX7_thick_48 rfl (fun c_48 => ?_) (fun c_48 => ?_)
          · replace hf := if_n hf c_48
            refine x_iconst (v := 0) hc rfl dX7_thick_57 ?_
            refine x_istore (L' := [(0, .ref (kad K 0)), (3, .int a3), (4, .int a4), (5, .ref (kad K p5)), (6, .ref (kad K p7)), (7, .int 0)]) hc [1, 2, 3, 4, 5, 0] dX7_thick_58 (by decide) rfl ?_
            refine x_bipush (v := (-9)) hc rfl dX7_thick_60 ?_
            refine x_istore (L' := [(0, .ref (kad K 0)), (3, .int a3), (4, .int a4), (5, .ref (kad K p5)), (6, .ref (kad K p7)), (7, .int 0), (8, .int (-9))]) hc [1, 2, 3, 4, 5, 6, 0] dX7_thick_62 (by decide) rfl ?_
            refine x_iconst (v := 3) hc rfl dX7_thick_64 ?_
            refine x_istore (L' := [(0, .ref (kad K 0)), (3, .int a3), (4, .int a4), (5, .ref (kad K p5)), (6, .ref (kad K p7)), (7, .int 0), (8, .int (-9)), (9, .int 3)]) hc [1, 2, 3, 4, 5, 6, 7, 0] dX7_thick_65 (by decide) rfl ?_
            obtain ⟨x30, x31, G32, hl_67, hf⟩ := bj3_ok hf
            have he_133_n18 : X K 133 [(0, .ref (kad K 0)), (7, .int x30), (8, .int x31)] [] G32 := by
              clear hl_67
              refine x_aload_n hc 0 dX7_thick_133 rfl rfl ?_
              refine x_iload hc 1 dX7_thick_134 rfl ?_
              refine x_iload hc 2 dX7_thick_136 rfl ?_
              obtain ⟨x34, G33, r35, hf⟩ := bj2_ok hf
              refine x_callVr (As := [.int x30, .int x31]) (p0 := 0) (v := (.int x34)) (T := TX7) hc (c_X7_told (kl K) (kV K) x30 x31 G32 x34 G33 r35) mw_X7_told tw_457 (rfl : kd 0 = 7) (by decide) rfl rfl (Nat.le_of_ble_eq_true rfl) ⟨Nat.le_of_ble_eq_true rfl, Nat.le_of_ble_eq_true rfl⟩ dX7_thick_138 rfl ?_
              cases hf
              exact x_iret hc rfl ho dX7_thick_141
            exact x_sub [0, 1, 2, 3, 4, 5, 6, 7] (c_X7_thick_l67_18 a3 a4 p5 p7 hc k6 FU 0 (-9) 3 G x30 x31 G32 hl_67 he_133_n18) rfl
          · replace hf := if_p hf c_48
            refine x_aload_n hc 0 dX7_thick_51 rfl rfl ?_
            refine x_iconst (v := 1) hc rfl dX7_thick_52 ?_
            obtain ⟨x37, G36, r38, hf⟩ := bj2_ok hf
            refine x_callVr (As := [.int 1]) (p0 := 0) (v := (.int x37)) (T := TX7) hc (c_X7_found (kl K) (kV K) 1 G x37 G36 r38) mw_X7_found tw_314 (rfl : kd 0 = 7) (by decide) rfl rfl (Nat.le_of_ble_eq_true rfl) ⟨Nat.le_of_ble_eq_true rfl, Nat.le_of_ble_eq_true rfl⟩ dX7_thick_53 rfl ?_
            cases hf
            exact x_iret hc rfl ho dX7_thick_56
      · replace hf := if_p hf c_30
        refine x_iconst (v := (-1)) hc rfl dX7_thick_33 ?_
        cases hf
        exact x_iret hc rfl ho dX7_thick_34
def f_X7_same (a1 : Int32) (a2 : Int32) (a3 : Int32) (a4 : Int32) (a5 : Int32) (a6 : Int32) (G : G_) : Option (Int32 × G_) :=
  bj1 (f_X7_slabAt a1 G) fun o1 =>
  bj1 (f_X7_slabAt a2 G) fun o3 =>
  mo o1 (
    some ((-1), G)) (fun p5 =>
    chk (kd p5 == 5) <|
    mo o3 (
      some ((-1), G)) (fun p7 =>
      chk (kd p7 == 5) <|
      bj1 (f_X7_isWay a3 a4) fun x9 =>
      if x9 = 0 then (
        some ((-1), G))
      else (
        bj1 (f_X7_within a5 0 2000) fun x11 =>
        if x11 = 0 then (
          some ((-1), G))
        else (
          bj1 (f_X7_within a6 0 2000) fun x13 =>
          if x13 = 0 then (
            some ((-1), G))
          else (
            if G.1 p5 0 = 0 then (
              bj2 (f_X7_found 1 G) fun x16 G15 =>
              some (x16, G15))
            else (
              if G.1 p7 0 = 0 then (
                bj2 (f_X7_found 1 G) fun x31 G30 =>
                some (x31, G30))
              else (
                bj2 (f_X0_ticksTill 17 p5 (G.1 p5 1) a3 a4 a5 G) fun x19 G18 =>
                bj2 (f_X0_ticksTill 17 p7 (G18.1 p7 1) a3 a4 a6 G18) fun x22 G21 =>
                if x19 = (-9) then (
                  some ((-9), G21))
                else (
                  if x22 = (-9) then (
                    some ((-9), G21))
                  else (
                    if x22 ≤ x19 then (
                      bj2 (f_X7_told (ab (x19 - x22)) 0 G21) fun x25 G24 =>
                      some (x25, G24))
                    else (
                      bj2 (f_X7_told (ab (x19 - x22)) 1 G21) fun x28 G27 =>
                      some (x28, G27)))))))))))
set_option maxHeartbeats 4000000 in
set_option maxRecDepth 100000 in
theorem c_X7_same (l : Launch) (V : VT) (a1 : Int32) (a2 : Int32) (a3 : Int32) (a4 : Int32) (a5 : Int32) (a6 : Int32) (G : G_) (r : Int32) (G' : G_) (hf : f_X7_same a1 a2 a3 a4 a5 a6 G = some (r, G')) : MC l V yX7_same cX7_same 11 (some .int) 5 119 [.ref (V.2.2.1 0), .int a1, .int a2, .int a3, .int a4, .int a5, .int a6] G (some (.int r)) G' := by
  refine mc_of (by decide) (Nat.le_of_ble_eq_true rfl) (fun K hV ho hc hkl => ?_)
  subst hV
  replace hc : Ok K cX7_same RX7 (Cond.code yX7_same cX7_same 11 (some .int) :: TB) (some .int) 5 119 11 := hc
  replace ho : Rets K (some (.int r)) G' := ho
  show X K 0 [(0, .ref (kad K 0)), (1, .int a1), (2, .int a2), (3, .int a3), (4, .int a4), (5, .int a5), (6, .int a6)] [] G
  unfold f_X7_same at hf
  refine x_aload_n hc 0 dX7_same_0 rfl rfl ?_
  refine x_iload_n hc 1 dX7_same_1 rfl rfl ?_
  obtain ⟨o1, r2, hf⟩ := bj1_ok hf
  refine x_callVr (As := [.int a1]) (p0 := 0) (v := (rfo K o1)) (T := TX7) hc (c_X7_slabAt (kl K) (kV K) a1 G o1 r2) mw_X7_slabAt tw_382 (rfl : kd 0 = 7) (by decide) rfl rfl (Nat.le_of_ble_eq_true rfl) ⟨Nat.le_of_ble_eq_true rfl, Nat.le_of_ble_eq_true rfl⟩ dX7_same_2 rfl ?_
  refine x_astoreO (L' := [(0, .ref (kad K 0)), (2, .int a2), (3, .int a3), (4, .int a4), (5, .int a5), (6, .int a6), (7, rfo K o1)]) hc [1, 3, 4, 5, 6, 7, 0] dX7_same_5 (by decide) rfl ?_
  refine x_aload_n hc 0 dX7_same_7 rfl rfl ?_
  refine x_iload_n hc 1 dX7_same_8 rfl rfl ?_
  obtain ⟨o3, r4, hf⟩ := bj1_ok hf
  refine x_callVr (As := [.int a2]) (p0 := 0) (v := (rfo K o3)) (T := TX7) hc (c_X7_slabAt (kl K) (kV K) a2 G o3 r4) mw_X7_slabAt tw_382 (rfl : kd 0 = 7) (by decide) rfl rfl (Nat.le_of_ble_eq_true rfl) ⟨Nat.le_of_ble_eq_true rfl, Nat.le_of_ble_eq_true rfl⟩ dX7_same_9 rfl ?_
  refine x_astoreO (L' := [(0, .ref (kad K 0)), (3, .int a3), (4, .int a4), (5, .int a5), (6, .int a6), (7, rfo K o1), (8, rfo K o3)]) hc [1, 3, 4, 5, 6, 7, 0] dX7_same_12 (by decide) (by cases o1 <;> rfl) ?_
  refine x_aloadO hc 5 dX7_same_14 rfl ?_
  cases o1 with
  | none =>
    replace hf := mo_n hf
    show X K 16 [(0, .ref (kad K 0)), (3, .int a3), (4, .int a4), (5, .int a5), (6, .int a6), (7, .null), (8, rfo K o3)] [.null] G
    refine x_ifnullN (tgt := 57) hc dX7_same_16 rfl ?_
    refine x_iconst (v := (-1)) hc rfl dX7_same_57 ?_
    cases hf
    exact x_iret hc rfl ho dX7_same_58
  | some p5 =>
    replace hf := mo_s hf
    obtain ⟨k6, hf⟩ := chk_ok hf
    show X K 16 [(0, .ref (kad K 0)), (3, .int a3), (4, .int a4), (5, .int a5), (6, .int a6), (7, .ref (kad K p5)), (8, rfo K o3)] [.ref (kad K p5)] G
    refine x_ifnullR hc dX7_same_16 ?_
    refine x_aloadO hc 6 dX7_same_19 rfl ?_
    cases o3 with
    | none =>
      replace hf := mo_n hf
      show X K 21 [(0, .ref (kad K 0)), (3, .int a3), (4, .int a4), (5, .int a5), (6, .int a6), (7, .ref (kad K p5)), (8, .null)] [.null] G
      refine x_ifnullN (tgt := 57) hc dX7_same_21 rfl ?_
      refine x_iconst (v := (-1)) hc rfl dX7_same_57 ?_
      cases hf
      exact x_iret hc rfl ho dX7_same_58
    | some p7 =>
      replace hf := mo_s hf
      obtain ⟨k8, hf⟩ := chk_ok hf
      show X K 21 [(0, .ref (kad K 0)), (3, .int a3), (4, .int a4), (5, .int a5), (6, .int a6), (7, .ref (kad K p5)), (8, .ref (kad K p7))] [.ref (kad K p7)] G
      refine x_ifnullR hc dX7_same_21 ?_
      refine x_iload_n hc 1 dX7_same_24 rfl rfl ?_
      refine x_iload hc 2 dX7_same_25 rfl ?_
      obtain ⟨x9, r10, hf⟩ := bj1_ok hf
      refine x_callSr (As := [.int a3, .int a4]) (v := (.int x9)) hc (c_X7_isWay (kl K) (kV K) a3 a4 G x9 r10) mw_X7_isWay tw_766 rfl (Nat.le_of_ble_eq_true rfl) ⟨Nat.le_of_ble_eq_true rfl, Nat.le_of_ble_eq_true rfl⟩ dX7_same_27 rfl ?_
      refine x_if_eq (tgt := 57) hc dX7_same_30 rfl (fun c_30 => ?_) (fun c_30 => ?_)
      · replace hf := if_p hf c_30
        refine x_iconst (v := (-1)) hc rfl dX7_same_57 ?_
        cases hf
        exact x_iret hc rfl ho dX7_same_58
      · replace hf := if_n hf c_30
        refine x_iload hc 3 dX7_same_33 rfl ?_
        refine x_iconst (v := 0) hc rfl dX7_same_35 ?_
        refine x_sipush (v := 2000) hc rfl dX7_same_36 ?_
        obtain ⟨x11, r12, hf⟩ := bj1_ok hf
        refine x_callSr (As := [.int a5, .int 0, .int 2000]) (v := (.int x11)) hc (c_X7_within (kl K) (kV K) a5 0 2000 G x11 r12) mw_X7_within tw_401 rfl (Nat.le_of_ble_eq_true rfl) ⟨Nat.le_of_ble_eq_true rfl, Nat.le_of_ble_eq_true rfl⟩ dX7_same_39 rfl ?_
        refine x_if_eq (tgt := 57) hc dX7_same_42 rfl (fun c_42 => ?_) (fun c_42 => ?_)
        · replace hf := if_p hf c_42
          refine x_iconst (v := (-1)) hc rfl dX7_same_57 ?_
          cases hf
          exact x_iret hc rfl ho dX7_same_58
        · replace hf := if_n hf c_42
          refine x_iload hc 4 dX7_same_45 rfl ?_
          refine x_iconst (v := 0) hc rfl dX7_same_47 ?_
          refine x_sipush (v := 2000) hc rfl dX7_same_48 ?_
          obtain ⟨x13, r14, hf⟩ := bj1_ok hf
          refine x_callSr (As := [.int a6, .int 0, .int 2000]) (v := (.int x13)) hc (c_X7_within (kl K) (kV K) a6 0 2000 G x13 r14) mw_X7_within tw_401 rfl (Nat.le_of_ble_eq_true rfl) ⟨Nat.le_of_ble_eq_true rfl, Nat.le_of_ble_eq_true rfl⟩ dX7_same_51 rfl ?_
          refine x_if_ne (tgt := 59) hc dX7_same_54 rfl (fun c_54 => ?_) (fun c_54 => ?_)
          · replace hf := if_n hf c_54
            refine x_aload hc 5 dX7_same_59 rfl ?_
            refine x_getI (T := TX5) (p0 := p5) hc in_X5 rfl (by decide) (kdb k6) 0 (by decide) tw_169 rfl rfl dX7_same_61 ?_
            refine x_if_eq (tgt := 75) hc dX7_same_64 rfl (fun c_64 => ?_) (fun c_64 => ?_)
            · replace hf := if_p hf c_64
              refine x_aload_n hc 0 dX7_same_75 rfl rfl ?_
              refine x_iconst (v := 1) hc rfl dX7_same_76 ?_
              obtain ⟨x16, G15, r17, hf⟩ := bj2_ok hf
              refine x_callVr (As := [.int 1]) (p0 := 0) (v := (.int x16)) (T := TX7) hc (c_X7_found (kl K) (kV K) 1 G x16 G15 r17) mw_X7_found tw_314 (rfl : kd 0 = 7) (by decide) rfl rfl (Nat.le_of_ble_eq_true rfl) ⟨Nat.le_of_ble_eq_true rfl, Nat.le_of_ble_eq_true rfl⟩ dX7_same_77 rfl ?_
              cases hf
              exact x_iret hc rfl ho dX7_same_80
            · replace hf := if_n hf c_64
              refine x_aload hc 6 dX7_same_67 rfl ?_
              refine x_getI (T := TX5) (p0 := p7) hc in_X5 rfl (by decide) (kdb k8) 0 (by decide) tw_169 rfl rfl dX7_same_69 ?_
              refine x_if_ne (tgt := 81) hc dX7_same_72 rfl (fun c_72 => ?_) (fun c_72 => ?_)
              · replace hf := if_n hf c_72
                refine x_aload_n hc 0 dX7_same_81 rfl rfl ?_
                refine x_getR (T := TX7) (p0 := 0) hc in_X7 rfl (by decide) (rfl : kd 0 = 7) 6 (by decide) tw_246 rfl rfl dX7_same_82 ?_
                refine x_aload hc 5 dX7_same_85 rfl ?_
                refine x_aload hc 5 dX7_same_87 rfl ?_
                refine x_getI (T := TX5) (p0 := p5) hc in_X5 rfl (by decide) (kdb k6) 1 (by decide) tw_173 rfl rfl dX7_same_89 ?_
                refine x_iload_n hc 1 dX7_same_92 rfl rfl ?_
                refine x_iload hc 2 dX7_same_93 rfl ?_
                refine x_iload hc 3 dX7_same_95 rfl ?_
                obtain ⟨x19, G18, r20, hf⟩ := bj2_ok hf
                refine x_callVr (As := [.ref (kad K p5), .int (G.1 p5 1), .int a3, .int a4, .int a5]) (p0 := 17) (v := (.int x19)) (T := TX0) hc (c_X0_ticksTill (kl K) (kV K) 17 p5 (G.1 p5 1) a3 a4 a5 G x19 G18 r20) mw_X0_ticksTill tw_824 (sh_X7_trial (rfl : kd 0 = 7)) (by decide) rfl rfl (Nat.le_of_ble_eq_true rfl) ⟨Nat.le_of_ble_eq_true rfl, Nat.le_of_ble_eq_true rfl⟩ dX7_same_97 rfl ?_
                refine x_istore (L' := [(0, .ref (kad K 0)), (3, .int a3), (4, .int a4), (6, .int a6), (8, .ref (kad K p7)), (9, .int x19)]) hc [1, 2, 3, 5, 7, 0] dX7_same_100 (by decide) rfl ?_
                refine x_aload_n hc 0 dX7_same_102 rfl rfl ?_
                refine x_getR (T := TX7) (p0 := 0) hc in_X7 rfl (by decide) (rfl : kd 0 = 7) 6 (by decide) tw_246 rfl rfl dX7_same_103 ?_
                refine x_aload hc 4 dX7_same_106 rfl ?_
                refine x_aload hc 4 dX7_same_108 rfl ?_
                refine x_getI (T := TX5) (p0 := p7) hc in_X5 rfl (by decide) (kdb k8) 1 (by decide) tw_173 rfl rfl dX7_same_110 ?_
                refine x_iload_n hc 1 dX7_same_113 rfl rfl ?_
                refine x_iload hc 2 dX7_same_114 rfl ?_
                refine x_iload hc 3 dX7_same_116 rfl ?_
                obtain ⟨x22, G21, r23, hf⟩ := bj2_ok hf
                refine x_callVr (As := [.ref (kad K p7), .int (G18.1 p7 1), .int a3, .int a4, .int a6]) (p0 := 17) (v := (.int x22)) (T := TX0) hc (c_X0_ticksTill (kl K) (kV K) 17 p7 (G18.1 p7 1) a3 a4 a6 G18 x22 G21 r23) mw_X0_ticksTill tw_824 (sh_X7_trial (rfl : kd 0 = 7)) (by decide) rfl rfl (Nat.le_of_ble_eq_true rfl) ⟨Nat.le_of_ble_eq_true rfl, Nat.le_of_ble_eq_true rfl⟩ dX7_same_118 rfl ?_
                refine x_istore (L' := [(0, .ref (kad K 0)), (9, .int x19), (10, .int x22)]) hc [1, 6, 0] dX7_same_121 (by decide) rfl ?_
                refine x_iload hc 1 dX7_same_123 rfl ?_
                refine x_bipush (v := (-9)) hc rfl dX7_same_125 ?_
                refine x_icmp_eq (tgt := 137) hc dX7_same_127 rfl (fun c_127 => ?_) (fun c_127 => ?_)
                · replace hf := if_p hf c_127
                  refine x_bipush (v := (-9)) hc rfl dX7_same_137 ?_
                  cases hf
                  exact x_iret hc rfl ho dX7_same_139
                · replace hf := if_n hf c_127
                  refine x_iload hc 2 dX7_same_130 rfl ?_
                  refine x_bipush (v := (-9)) hc rfl dX7_same_132 ?_
                  refine x_icmp_ne (tgt := 140) hc dX7_same_134 rfl (fun c_134 => ?_) (fun c_134 => ?_)
                  · replace hf := if_n hf c_134
                    refine x_aload_n hc 0 dX7_same_140 rfl rfl ?_
                    refine x_iload hc 1 dX7_same_141 rfl ?_
                    refine x_iload hc 2 dX7_same_143 rfl ?_
                    refine x_isub hc dX7_same_145 ?_
                    refine x_mabs hc tw_809 tw_810 tw_36 tw_811 (Nat.le_of_ble_eq_true rfl) (Nat.le_of_ble_eq_true rfl) dX7_same_146 ?_
                    refine x_iload hc 2 dX7_same_149 rfl ?_
                    refine x_iload hc 1 dX7_same_151 rfl ?_
                    refine x_icmp_le (tgt := 160) hc dX7_same_153 rfl (fun c_153 => ?_) (fun c_153 => ?_)
                    · replace hf := if_p hf c_153
                      refine x_iconst (v := 0) hc rfl dX7_same_160 ?_
                      obtain ⟨x25, G24, r26, hf⟩ := bj2_ok hf
                      refine x_callVr (As := [.int (ab (x19 - x22)), .int 0]) (p0 := 0) (v := (.int x25)) (T := TX7) hc (c_X7_told (kl K) (kV K) (ab (x19 - x22)) 0 G21 x25 G24 r26) mw_X7_told tw_457 (rfl : kd 0 = 7) (by decide) rfl rfl (Nat.le_of_ble_eq_true rfl) ⟨Nat.le_of_ble_eq_true rfl, Nat.le_of_ble_eq_true rfl⟩ dX7_same_161 rfl ?_
                      cases hf
                      exact x_iret hc rfl ho dX7_same_164
                    · replace hf := if_n hf c_153
                      refine x_iconst (v := 1) hc rfl dX7_same_156 ?_
                      refine x_goto (tgt := 161) hc dX7_same_157 rfl ?_
                      obtain ⟨x28, G27, r29, hf⟩ := bj2_ok hf
                      refine x_callVr (As := [.int (ab (x19 - x22)), .int 1]) (p0 := 0) (v := (.int x28)) (T := TX7) hc (c_X7_told (kl K) (kV K) (ab (x19 - x22)) 1 G21 x28 G27 r29) mw_X7_told tw_457 (rfl : kd 0 = 7) (by decide) rfl rfl (Nat.le_of_ble_eq_true rfl) ⟨Nat.le_of_ble_eq_true rfl, Nat.le_of_ble_eq_true rfl⟩ dX7_same_161 rfl ?_
                      cases hf
                      exact x_iret hc rfl ho dX7_same_164
                  · replace hf := if_p hf c_134
                    refine x_bipush (v := (-9)) hc rfl dX7_same_137 ?_
                    cases hf
                    exact x_iret hc rfl ho dX7_same_139
              · replace hf := if_p hf c_72
                refine x_aload_n hc 0 dX7_same_75 rfl rfl ?_
                refine x_iconst (v := 1) hc rfl dX7_same_76 ?_
                obtain ⟨x31, G30, r32, hf⟩ := bj2_ok hf
                refine x_callVr (As := [.int 1]) (p0 := 0) (v := (.int x31)) (T := TX7) hc (c_X7_found (kl K) (kV K) 1 G x31 G30 r32) mw_X7_found tw_314 (rfl : kd 0 = 7) (by decide) rfl rfl (Nat.le_of_ble_eq_true rfl) ⟨Nat.le_of_ble_eq_true rfl, Nat.le_of_ble_eq_true rfl⟩ dX7_same_77 rfl ?_
                cases hf
                exact x_iret hc rfl ho dX7_same_80
          · replace hf := if_p hf c_54
            refine x_iconst (v := (-1)) hc rfl dX7_same_57 ?_
            cases hf
            exact x_iret hc rfl ho dX7_same_58
def f_X7_rule_l51_11 (a2 : Int32) (a3 : Int32) (a4 : Int32) (p3 : Nat) : Nat → Int32 → G_ → Option (G_)
  | 0, _, _ => none
  | n11 + 1, v9, G10 =>
    if 21 ≤ v9 then (
      some (G10))
    else (
      bj2 (f_X0_ticksTill 17 p3 v9 a2 a3 a4 G10) fun x13 G12 =>
      bj1 (
        if x13 = (-9) then (
          some (200))
        else (
          some (x13))) fun (x16 : Int32) =>
      chk (inb v9 21) <|
      nm (sI G12 49 (ix v9) x16) fun G18 =>
      f_X7_rule_l51_11 a2 a3 a4 p3 n11 (v9 + 1) G18)
def f_X7_rule_l128_26 (v20 : Int32) (v21 : Int32) (v22 : Int32) (G19 : G_) : Nat → Int32 → Int32 → Option (Int32)
  | 0, _, _ => none
  | n26 + 1, v24, v25 =>
    if 21 ≤ v25 then (
      some (v24))
    else (
      chk (inb v25 21) <|
      nm (v24 + (ab ((v22 * v25) - (G19.1 49 (ix v25))))) fun x28 =>
      f_X7_rule_l128_26 v20 v21 v22 G19 n26 x28 (v25 + 1))
def f_X7_rule_l115_23 (G19 : G_) : Nat → Int32 → Int32 → Int32 → Option (Int32 × Int32)
  | 0, _, _, _ => none
  | n23 + 1, v20, v21, v22 =>
    if 20 < v22 then (
      some (v20, v21))
    else (
      bj1 (f_X7_rule_l128_26 v20 v21 v22 G19 FU 0 3) fun x29 =>
      bj2 (
        if v20 = 0 then (
          some (v22, x29))
        else (
          if v21 ≤ x29 then (
            some (v20, v21))
          else (
            some (v22, x29)))) fun (x31 : Int32) (x32 : Int32) =>
      f_X7_rule_l115_23 G19 n23 x31 x32 (v22 + 1))
def f_X7_rule (a1 : Int32) (a2 : Int32) (a3 : Int32) (a4 : Int32) (G : G_) : Option (Int32 × G_) :=
  bj1 (f_X7_slabAt a1 G) fun o1 =>
  mo o1 (
    some ((-1), G)) (fun p3 =>
    chk (kd p3 == 5) <|
    bj1 (f_X7_isWay a2 a3) fun x5 =>
    if x5 = 0 then (
      some ((-1), G))
    else (
      bj1 (f_X7_within a4 0 2000) fun x7 =>
      if x7 = 0 then (
        some ((-1), G))
      else (
        if G.1 p3 0 = 0 then (
          bj2 (f_X7_found 1 G) fun x39 G38 =>
          some (x39, G38))
        else (
          bj1 (f_X7_rule_l51_11 a2 a3 a4 p3 FU 3 G) fun G19 =>
          bj2 (f_X7_rule_l115_23 G19 FU 0 0 1) fun x33 x34 =>
          bj2 (f_X7_told x33 x34 G19) fun x36 G35 =>
          some (x36, G35)))))
set_option maxHeartbeats 4000000 in
set_option maxRecDepth 100000 in
theorem c_X7_rule_l51_11 {K : CT} (a2 : Int32) (a3 : Int32) (a4 : Int32) (p3 : Nat) (hc : Ok K cX7_rule RX7 (Cond.code yX7_rule cX7_rule 11 (some .int) :: TB) (some .int) 5 119 11)  : ∀ (n11 : Nat) (v9 : Int32) (G10 : G_) (G19 : G_), f_X7_rule_l51_11 a2 a3 a4 p3 n11 v9 G10 = some (G19) → X K 106 [(0, .ref (kad K 0))] [] G19 → X K 51 [(0, .ref (kad K 0)), (2, .int a2), (3, .int a3), (4, .int a4), (5, .ref (kad K p3)), (6, .int v9)] [] G10 := by
  intro n11
  induction n11 with
  | zero =>
    intro v9 G10 G19 hf hk
    cases hf
  | succ n11 ih =>
    intro v9 G10 G19 hf hk
    unfold f_X7_rule_l51_11 at hf
    refine x_iload hc 5 dX7_rule_51 rfl ?_
    refine x_aload_n hc 0 dX7_rule_53 rfl rfl ?_
    refine x_getR (T := TX7) (p0 := 0) hc in_X7 rfl (by decide) (rfl : kd 0 = 7) 13 (by decide) tw_253 rfl rfl dX7_rule_54 ?_
    refine x_alenI (p0 := 49) (v := 21) hc (sh_X7_ticksByThick (rfl : kd 0 = 7)).1 (by decide) (by decide) (sh_X7_ticksByThick (rfl : kd 0 = 7)).2 rfl dX7_rule_57 ?_
    refine x_icmp_ge (tgt := 106) hc dX7_rule_58 rfl (fun c_58 => ?_) (fun c_58 => ?_)
    · replace hf := if_p hf c_58
      cases hf
      exact x_sub [0] hk rfl
    · replace hf := if_n hf c_58
      refine x_aload_n hc 0 dX7_rule_61 rfl rfl ?_
      refine x_getR (T := TX7) (p0 := 0) hc in_X7 rfl (by decide) (rfl : kd 0 = 7) 6 (by decide) tw_246 rfl rfl dX7_rule_62 ?_
      refine x_aload hc 4 dX7_rule_65 rfl ?_
      refine x_iload hc 5 dX7_rule_67 rfl ?_
      refine x_iload_n hc 1 dX7_rule_69 rfl rfl ?_
      refine x_iload_n hc 2 dX7_rule_70 rfl rfl ?_
      refine x_iload hc 3 dX7_rule_71 rfl ?_
      obtain ⟨x13, G12, r14, hf⟩ := bj2_ok hf
      refine x_callVr (As := [.ref (kad K p3), .int v9, .int a2, .int a3, .int a4]) (p0 := 17) (v := (.int x13)) (T := TX0) hc (c_X0_ticksTill (kl K) (kV K) 17 p3 v9 a2 a3 a4 G10 x13 G12 r14) mw_X0_ticksTill tw_824 (sh_X7_trial (rfl : kd 0 = 7)) (by decide) rfl rfl (Nat.le_of_ble_eq_true rfl) ⟨Nat.le_of_ble_eq_true rfl, Nat.le_of_ble_eq_true rfl⟩ dX7_rule_73 rfl ?_
      refine x_istore (L' := [(0, .ref (kad K 0)), (2, .int a2), (3, .int a3), (4, .int a4), (5, .ref (kad K p3)), (6, .int v9), (7, .int x13)]) hc [1, 2, 3, 4, 5, 6, 0] dX7_rule_76 (by decide) rfl ?_
      refine x_aload_n hc 0 dX7_rule_78 rfl rfl ?_
      refine x_getR (T := TX7) (p0 := 0) hc in_X7 rfl (by decide) (rfl : kd 0 = 7) 13 (by decide) tw_253 rfl rfl dX7_rule_79 ?_
      refine x_iload hc 5 dX7_rule_82 rfl ?_
      refine x_iload hc 6 dX7_rule_84 rfl ?_
      refine x_bipush (v := (-9)) hc rfl dX7_rule_86 ?_
      obtain ⟨x16, hr, hf⟩ := bj1_ok hf
      have hj_99_15 : X K 99 [(0, .ref (kad K 0)), (2, .int a2), (3, .int a3), (4, .int a4), (5, .ref (kad K p3)), (6, .int v9)] [.int x16, .int v9, .ref (kad K 49)] G12 := by
        clear hr
        obtain ⟨h17, hf⟩ := chk_ok hf
        refine x_iastore (p0 := 49) hc (sh_X7_ticksByThick (rfl : kd 0 = 7)).1 (sh_X7_ticksByThick (rfl : kd 0 = 7)).2 h17 dX7_rule_99 ?_
        refine x_nmg (fun G18 e_G18 => ?_)
        replace hf := nm_ok hf G18 e_G18
        refine x_iinc (v := v9 + 1) (L' := [(0, .ref (kad K 0)), (2, .int a2), (3, .int a3), (4, .int a4), (5, .ref (kad K p3)), (6, .int (v9 + 1))]) hc 5 [1, 2, 3, 4, 5, 0] dX7_rule_100 rfl rfl (by decide) rfl ?_
        refine x_goto (tgt := 51) hc dX7_rule_103 rfl ?_
        exact x_sub [0, 1, 2, 3, 4, 5] (ih _ _ _ hf hk) rfl
      replace hf := hr
      clear hr
      refine x_icmp_ne (tgt := 97) hc dX7_rule_88 rfl (fun c_88 => ?_) (fun c_88 => ?_)
      · replace hf := if_n hf c_88
        refine x_iload hc 6 dX7_rule_97 rfl ?_
        cases hf
        exact x_sub [0, 1, 2, 3, 4, 5] hj_99_15 rfl
      · replace hf := if_p hf c_88
        refine x_sipush (v := 200) hc rfl dX7_rule_91 ?_
        refine x_goto (tgt := 99) hc dX7_rule_94 rfl ?_
        cases hf
        exact x_sub [0, 1, 2, 3, 4, 5] hj_99_15 rfl
set_option maxHeartbeats 4000000 in
set_option maxRecDepth 100000 in
theorem c_X7_rule_l128_26 {K : CT} (v20 : Int32) (v21 : Int32) (v22 : Int32) (G19 : G_) (hc : Ok K cX7_rule RX7 (Cond.code yX7_rule cX7_rule 11 (some .int) :: TB) (some .int) 5 119 11)  : ∀ (n26 : Nat) (v24 : Int32) (v25 : Int32) (x29 : Int32), f_X7_rule_l128_26 v20 v21 v22 G19 n26 v24 v25 = some (x29) → X K 165 [(0, .ref (kad K 0)), (6, .int v20), (7, .int v21), (8, .int v22), (9, .int x29)] [] G19 → X K 128 [(0, .ref (kad K 0)), (6, .int v20), (7, .int v21), (8, .int v22), (9, .int v24), (10, .int v25)] [] G19 := by
  intro n26
  induction n26 with
  | zero =>
    intro v24 v25 x29 hf hk
    cases hf
  | succ n26 ih =>
    intro v24 v25 x29 hf hk
    unfold f_X7_rule_l128_26 at hf
    refine x_iload hc 5 dX7_rule_128 rfl ?_
    refine x_aload_n hc 0 dX7_rule_130 rfl rfl ?_
    refine x_getR (T := TX7) (p0 := 0) hc in_X7 rfl (by decide) (rfl : kd 0 = 7) 13 (by decide) tw_253 rfl rfl dX7_rule_131 ?_
    refine x_alenI (p0 := 49) (v := 21) hc (sh_X7_ticksByThick (rfl : kd 0 = 7)).1 (by decide) (by decide) (sh_X7_ticksByThick (rfl : kd 0 = 7)).2 rfl dX7_rule_134 ?_
    refine x_icmp_ge (tgt := 165) hc dX7_rule_135 rfl (fun c_135 => ?_) (fun c_135 => ?_)
    · replace hf := if_p hf c_135
      cases hf
      exact x_sub [0, 1, 2, 3, 4] hk rfl
    · replace hf := if_n hf c_135
      refine x_iload hc 4 dX7_rule_138 rfl ?_
      refine x_iload hc 3 dX7_rule_140 rfl ?_
      refine x_iload hc 5 dX7_rule_142 rfl ?_
      refine x_imul hc dX7_rule_144 ?_
      refine x_aload_n hc 0 dX7_rule_145 rfl rfl ?_
      refine x_getR (T := TX7) (p0 := 0) hc in_X7 rfl (by decide) (rfl : kd 0 = 7) 13 (by decide) tw_253 rfl rfl dX7_rule_146 ?_
      refine x_iload hc 5 dX7_rule_149 rfl ?_
      obtain ⟨h27, hf⟩ := chk_ok hf
      refine x_iaload (p0 := 49) hc (sh_X7_ticksByThick (rfl : kd 0 = 7)).1 (sh_X7_ticksByThick (rfl : kd 0 = 7)).2 h27 dX7_rule_151 ?_
      refine x_isub hc dX7_rule_152 ?_
      refine x_mabs hc tw_809 tw_810 tw_36 tw_811 (Nat.le_of_ble_eq_true rfl) (Nat.le_of_ble_eq_true rfl) dX7_rule_153 ?_
      refine x_iadd hc dX7_rule_156 ?_
      refine x_nmi (fun x28 e_x28 => ?_)
      replace hf := nm_ok hf x28 e_x28
      refine x_istore (L' := [(0, .ref (kad K 0)), (6, .int v20), (7, .int v21), (8, .int v22), (9, .int x28), (10, .int v25)]) hc [1, 2, 3, 4, 0, 5] dX7_rule_157 (by decide) rfl ?_
      refine x_iinc (v := v25 + 1) (L' := [(0, .ref (kad K 0)), (6, .int v20), (7, .int v21), (8, .int v22), (9, .int x28), (10, .int (v25 + 1))]) hc 5 [1, 2, 3, 4, 5, 0] dX7_rule_159 rfl rfl (by decide) rfl ?_
      refine x_goto (tgt := 128) hc dX7_rule_162 rfl ?_
      exact x_sub [0, 1, 2, 3, 4, 5] (ih _ _ _ hf hk) rfl
set_option maxHeartbeats 4000000 in
set_option maxRecDepth 100000 in
theorem c_X7_rule_l115_23 {K : CT} (G19 : G_) (hc : Ok K cX7_rule RX7 (Cond.code yX7_rule cX7_rule 11 (some .int) :: TB) (some .int) 5 119 11)  : ∀ (n23 : Nat) (v20 : Int32) (v21 : Int32) (v22 : Int32) (x33 : Int32) (x34 : Int32), f_X7_rule_l115_23 G19 n23 v20 v21 v22 = some (x33, x34) → X K 191 [(0, .ref (kad K 0)), (6, .int x33), (7, .int x34)] [] G19 → X K 115 [(0, .ref (kad K 0)), (6, .int v20), (7, .int v21), (8, .int v22)] [] G19 := by
  intro n23
  induction n23 with
  | zero =>
    intro v20 v21 v22 x33 x34 hf hk
    cases hf
  | succ n23 ih =>
    intro v20 v21 v22 x33 x34 hf hk
    unfold f_X7_rule_l115_23 at hf
    refine x_iload hc 3 dX7_rule_115 rfl ?_
    refine x_bipush (v := 20) hc rfl dX7_rule_117 ?_
    refine x_icmp_gt (tgt := 191) hc dX7_rule_119 rfl (fun c_119 => ?_) (fun c_119 => ?_)
    · replace hf := if_p hf c_119
      cases hf
      exact x_sub [0, 1, 2] hk rfl
    · replace hf := if_n hf c_119
      refine x_iconst (v := 0) hc rfl dX7_rule_122 ?_
      refine x_istore (L' := [(0, .ref (kad K 0)), (6, .int v20), (7, .int v21), (8, .int v22), (9, .int 0)]) hc [1, 2, 3, 4, 0] dX7_rule_123 (by decide) rfl ?_
      refine x_iconst (v := 3) hc rfl dX7_rule_125 ?_
      refine x_istore (L' := [(0, .ref (kad K 0)), (6, .int v20), (7, .int v21), (8, .int v22), (9, .int 0), (10, .int 3)]) hc [1, 2, 3, 4, 5, 0] dX7_rule_126 (by decide) rfl ?_
      obtain ⟨x29, hl_128, hf⟩ := bj1_ok hf
      have he_165_n26 : X K 165 [(0, .ref (kad K 0)), (6, .int v20), (7, .int v21), (8, .int v22), (9, .int x29)] [] G19 := by
        clear hl_128
        refine x_iload hc 1 dX7_rule_165 rfl ?_
        obtain ⟨x31, x32, hr, hf⟩ := bj2_ok hf
        have hj_185_30 : X K 185 [(0, .ref (kad K 0)), (6, .int x31), (7, .int x32), (8, .int v22)] [] G19 := by
          clear hr
          refine x_iinc (v := v22 + 1) (L' := [(0, .ref (kad K 0)), (6, .int x31), (7, .int x32), (8, .int (v22 + 1))]) hc 3 [1, 2, 3, 0] dX7_rule_185 rfl rfl (by decide) rfl ?_
          refine x_goto (tgt := 115) hc dX7_rule_188 rfl ?_
          exact x_sub [0, 1, 2, 3] (ih _ _ _ _ _ hf hk) rfl
        replace hf := hr
        clear hr
        refine x_if_eq (tgt := 177) hc dX7_rule_167 rfl (fun c_167 => ?_) (fun c_167 => ?_)
        · replace hf := if_p hf c_167
          refine x_iload hc 3 dX7_rule_177 rfl ?_
          refine x_istore (L' := [(0, .ref (kad K 0)), (6, .int v22), (8, .int v22), (9, .int x29)]) hc [1, 0, 3, 4] dX7_rule_179 (by decide) rfl ?_
          refine x_iload hc 3 dX7_rule_181 rfl ?_
          refine x_istore (L' := [(0, .ref (kad K 0)), (6, .int v22), (7, .int x29), (8, .int v22)]) hc [1, 2, 0, 3] dX7_rule_183 (by decide) rfl ?_
          cases hf
          exact x_sub [0, 1, 2, 3] hj_185_30 rfl
        · replace hf := if_n hf c_167
          refine x_iload hc 4 dX7_rule_170 rfl ?_
          refine x_iload hc 2 dX7_rule_172 rfl ?_
          refine x_icmp_ge (tgt := 185) hc dX7_rule_174 rfl (fun c_174 => ?_) (fun c_174 => ?_)
          · replace hf := if_p hf c_174
            cases hf
            exact x_sub [0, 1, 2, 3] hj_185_30 rfl
          · replace hf := if_n hf c_174
            refine x_iload hc 3 dX7_rule_177 rfl ?_
            refine x_istore (L' := [(0, .ref (kad K 0)), (6, .int v22), (8, .int v22), (9, .int x29)]) hc [1, 0, 3, 4] dX7_rule_179 (by decide) rfl ?_
            refine x_iload hc 3 dX7_rule_181 rfl ?_
            refine x_istore (L' := [(0, .ref (kad K 0)), (6, .int v22), (7, .int x29), (8, .int v22)]) hc [1, 2, 0, 3] dX7_rule_183 (by decide) rfl ?_
            cases hf
            exact x_sub [0, 1, 2, 3] hj_185_30 rfl
      exact x_sub [0, 1, 2, 3, 4, 5] (c_X7_rule_l128_26 v20 v21 v22 G19 hc  FU 0 3 x29 hl_128 he_165_n26) rfl
set_option maxHeartbeats 4000000 in
set_option maxRecDepth 100000 in
theorem c_X7_rule (l : Launch) (V : VT) (a1 : Int32) (a2 : Int32) (a3 : Int32) (a4 : Int32) (G : G_) (r : Int32) (G' : G_) (hf : f_X7_rule a1 a2 a3 a4 G = some (r, G')) : MC l V yX7_rule cX7_rule 11 (some .int) 5 119 [.ref (V.2.2.1 0), .int a1, .int a2, .int a3, .int a4] G (some (.int r)) G' := by
  refine mc_of (by decide) (Nat.le_of_ble_eq_true rfl) (fun K hV ho hc hkl => ?_)
  subst hV
  replace hc : Ok K cX7_rule RX7 (Cond.code yX7_rule cX7_rule 11 (some .int) :: TB) (some .int) 5 119 11 := hc
  replace ho : Rets K (some (.int r)) G' := ho
  show X K 0 [(0, .ref (kad K 0)), (1, .int a1), (2, .int a2), (3, .int a3), (4, .int a4)] [] G
  unfold f_X7_rule at hf
  refine x_aload_n hc 0 dX7_rule_0 rfl rfl ?_
  refine x_iload_n hc 1 dX7_rule_1 rfl rfl ?_
  obtain ⟨o1, r2, hf⟩ := bj1_ok hf
  refine x_callVr (As := [.int a1]) (p0 := 0) (v := (rfo K o1)) (T := TX7) hc (c_X7_slabAt (kl K) (kV K) a1 G o1 r2) mw_X7_slabAt tw_382 (rfl : kd 0 = 7) (by decide) rfl rfl (Nat.le_of_ble_eq_true rfl) ⟨Nat.le_of_ble_eq_true rfl, Nat.le_of_ble_eq_true rfl⟩ dX7_rule_2 rfl ?_
  refine x_astoreO (L' := [(0, .ref (kad K 0)), (2, .int a2), (3, .int a3), (4, .int a4), (5, rfo K o1)]) hc [1, 3, 4, 5, 0] dX7_rule_5 (by decide) rfl ?_
  refine x_aloadO hc 4 dX7_rule_7 rfl ?_
  cases o1 with
  | none =>
    replace hf := mo_n hf
    show X K 9 [(0, .ref (kad K 0)), (2, .int a2), (3, .int a3), (4, .int a4), (5, .null)] [.null] G
    refine x_ifnullN (tgt := 32) hc dX7_rule_9 rfl ?_
    refine x_iconst (v := (-1)) hc rfl dX7_rule_32 ?_
    cases hf
    exact x_iret hc rfl ho dX7_rule_33
  | some p3 =>
    replace hf := mo_s hf
    obtain ⟨k4, hf⟩ := chk_ok hf
    show X K 9 [(0, .ref (kad K 0)), (2, .int a2), (3, .int a3), (4, .int a4), (5, .ref (kad K p3))] [.ref (kad K p3)] G
    refine x_ifnullR hc dX7_rule_9 ?_
    refine x_iload_n hc 1 dX7_rule_12 rfl rfl ?_
    refine x_iload_n hc 2 dX7_rule_13 rfl rfl ?_
    obtain ⟨x5, r6, hf⟩ := bj1_ok hf
    refine x_callSr (As := [.int a2, .int a3]) (v := (.int x5)) hc (c_X7_isWay (kl K) (kV K) a2 a3 G x5 r6) mw_X7_isWay tw_766 rfl (Nat.le_of_ble_eq_true rfl) ⟨Nat.le_of_ble_eq_true rfl, Nat.le_of_ble_eq_true rfl⟩ dX7_rule_14 rfl ?_
    refine x_if_eq (tgt := 32) hc dX7_rule_17 rfl (fun c_17 => ?_) (fun c_17 => ?_)
    · replace hf := if_p hf c_17
      refine x_iconst (v := (-1)) hc rfl dX7_rule_32 ?_
      cases hf
      exact x_iret hc rfl ho dX7_rule_33
    · replace hf := if_n hf c_17
      refine x_iload hc 3 dX7_rule_20 rfl ?_
      refine x_iconst (v := 0) hc rfl dX7_rule_22 ?_
      refine x_sipush (v := 2000) hc rfl dX7_rule_23 ?_
      obtain ⟨x7, r8, hf⟩ := bj1_ok hf
      refine x_callSr (As := [.int a4, .int 0, .int 2000]) (v := (.int x7)) hc (c_X7_within (kl K) (kV K) a4 0 2000 G x7 r8) mw_X7_within tw_401 rfl (Nat.le_of_ble_eq_true rfl) ⟨Nat.le_of_ble_eq_true rfl, Nat.le_of_ble_eq_true rfl⟩ dX7_rule_26 rfl ?_
      refine x_if_ne (tgt := 34) hc dX7_rule_29 rfl (fun c_29 => ?_) (fun c_29 => ?_)
      · replace hf := if_n hf c_29
        refine x_aload hc 4 dX7_rule_34 rfl ?_
        refine x_getI (T := TX5) (p0 := p3) hc in_X5 rfl (by decide) (kdb k4) 0 (by decide) tw_169 rfl rfl dX7_rule_36 ?_
        refine x_if_ne (tgt := 48) hc dX7_rule_39 rfl (fun c_39 => ?_) (fun c_39 => ?_)
        · replace hf := if_n hf c_39
          refine x_iconst (v := 3) hc rfl dX7_rule_48 ?_
          refine x_istore (L' := [(0, .ref (kad K 0)), (2, .int a2), (3, .int a3), (4, .int a4), (5, .ref (kad K p3)), (6, .int 3)]) hc [1, 2, 3, 4, 5, 0] dX7_rule_49 (by decide) rfl ?_
          obtain ⟨G19, hl_51, hf⟩ := bj1_ok hf
          have he_106_n11 : X K 106 [(0, .ref (kad K 0))] [] G19 := by
            clear hl_51
            refine x_iconst (v := 0) hc rfl dX7_rule_106 ?_
            refine x_istore (L' := [(0, .ref (kad K 0)), (6, .int 0)]) hc [1, 0] dX7_rule_107 (by decide) rfl ?_
            refine x_iconst (v := 0) hc rfl dX7_rule_109 ?_
            refine x_istore (L' := [(0, .ref (kad K 0)), (6, .int 0), (7, .int 0)]) hc [1, 2, 0] dX7_rule_110 (by decide) rfl ?_
            refine x_iconst (v := 1) hc rfl dX7_rule_112 ?_
            refine x_istore (L' := [(0, .ref (kad K 0)), (6, .int 0), (7, .int 0), (8, .int 1)]) hc [1, 2, 3, 0] dX7_rule_113 (by decide) rfl ?_
            obtain ⟨x33, x34, hl_115, hf⟩ := bj2_ok hf
            have he_191_n23 : X K 191 [(0, .ref (kad K 0)), (6, .int x33), (7, .int x34)] [] G19 := by
              clear hl_115
              refine x_aload_n hc 0 dX7_rule_191 rfl rfl ?_
              refine x_iload hc 1 dX7_rule_192 rfl ?_
              refine x_iload hc 2 dX7_rule_194 rfl ?_
              obtain ⟨x36, G35, r37, hf⟩ := bj2_ok hf
              refine x_callVr (As := [.int x33, .int x34]) (p0 := 0) (v := (.int x36)) (T := TX7) hc (c_X7_told (kl K) (kV K) x33 x34 G19 x36 G35 r37) mw_X7_told tw_457 (rfl : kd 0 = 7) (by decide) rfl rfl (Nat.le_of_ble_eq_true rfl) ⟨Nat.le_of_ble_eq_true rfl, Nat.le_of_ble_eq_true rfl⟩ dX7_rule_196 rfl ?_
              cases hf
              exact x_iret hc rfl ho dX7_rule_199
            exact x_sub [0, 1, 2, 3] (c_X7_rule_l115_23 G19 hc  FU 0 0 1 x33 x34 hl_115 he_191_n23) rfl
          exact x_sub [0, 1, 2, 3, 4, 5] (c_X7_rule_l51_11 a2 a3 a4 p3 hc  FU 3 G G19 hl_51 he_106_n11) rfl
        · replace hf := if_p hf c_39
          refine x_aload_n hc 0 dX7_rule_42 rfl rfl ?_
          refine x_iconst (v := 1) hc rfl dX7_rule_43 ?_
          obtain ⟨x39, G38, r40, hf⟩ := bj2_ok hf
          refine x_callVr (As := [.int 1]) (p0 := 0) (v := (.int x39)) (T := TX7) hc (c_X7_found (kl K) (kV K) 1 G x39 G38 r40) mw_X7_found tw_314 (rfl : kd 0 = 7) (by decide) rfl rfl (Nat.le_of_ble_eq_true rfl) ⟨Nat.le_of_ble_eq_true rfl, Nat.le_of_ble_eq_true rfl⟩ dX7_rule_44 rfl ?_
          cases hf
          exact x_iret hc rfl ho dX7_rule_47
      · replace hf := if_p hf c_29
        refine x_iconst (v := (-1)) hc rfl dX7_rule_32 ?_
        cases hf
        exact x_iret hc rfl ho dX7_rule_33
def f_X7_tellLosses_l80_21 (a1 : Int32) (x11 : Int32) (x12 : Int32) (v14 : Int32) (x17 : Int32) : Nat → Int32 → G_ → Option (G_)
  | 0, _, _ => none
  | n21 + 1, v19, G20 =>
    if 16 ≤ v19 then (
      some (G20))
    else (
      bj1 (
        if v19 &&& (x11 ^^^ (-1)) = 0 then (
          bj1 (f_X7_ticksOf v19 G20) fun x23 =>
          if x23 = v14 then (
            bj1 (f_X1_setLoss a1 v19 x17 G20) fun G25 =>
            some (G25))
          else (
            some (G20)))
        else (
          some (G20))) fun (G27 : G_) =>
      f_X7_tellLosses_l80_21 a1 x11 x12 v14 x17 n21 (v19 + 1) G27)
def f_X7_tellLosses_l61_16 (a1 : Int32) (x11 : Int32) (x12 : Int32) : Nat → Int32 → G_ → Option (G_)
  | 0, _, _ => none
  | n16 + 1, v14, G15 =>
    if x12 < v14 then (
      some (G15))
    else (
      bj1 (f_X0_lossNow 17 G15) fun x17 =>
      bj1 (f_X7_tellLosses_l80_21 a1 x11 x12 v14 x17 FU 0 G15) fun G28 =>
      bj1 (f_X0_heat 17 4 0 G28) fun G29 =>
      f_X7_tellLosses_l61_16 a1 x11 x12 n16 (v14 + 1) G29)
def f_X7_tellLosses (a1 : Int32) (a2 : Int32) (G : G_) : Option G_ :=
  bj1 (f_X7_slabAt a1 G) fun o1 =>
  bj1 (f_X7_planAt a1 G) fun o3 =>
  mo o1 (
    some G) (fun p5 =>
    chk (kd p5 == 5) <|
    mo o3 (
      some G) (fun p7 =>
      chk (kd p7 == 2) <|
      bj1 (f_X0_makeByPlan 17 p5 (G.1 p5 1) (G.1 p5 3) p7 G) fun G9 =>
      nm (a2 &&& ((1 <<< (a1 &&& 31)) ^^^ (-1))) fun x11 =>
      bj1 (f_X7_ticksOf x11 G9) fun x12 =>
      bj1 (f_X7_tellLosses_l61_16 a1 x11 x12 FU 0 G9) fun G31 =>
      some G31))
set_option maxHeartbeats 4000000 in
set_option maxRecDepth 100000 in
theorem c_X7_tellLosses_l80_21 {K : CT} (a1 : Int32) (x11 : Int32) (x12 : Int32) (v14 : Int32) (x17 : Int32) (hc : Ok K cX7_tellLosses RX7 (Cond.code yX7_tellLosses cX7_tellLosses 10 none :: TB) none 5 117 10)  : ∀ (n21 : Nat) (v19 : Int32) (G20 : G_) (G28 : G_), f_X7_tellLosses_l80_21 a1 x11 x12 v14 x17 n21 v19 G20 = some (G28) → X K 126 [(0, .ref (kad K 0)), (1, .int a1), (5, .int x11), (6, .int x12), (7, .int v14)] [] G28 → X K 80 [(0, .ref (kad K 0)), (1, .int a1), (5, .int x11), (6, .int x12), (7, .int v14), (8, .int x17), (9, .int v19)] [] G20 := by
  intro n21
  induction n21 with
  | zero =>
    intro v19 G20 G28 hf hk
    cases hf
  | succ n21 ih =>
    intro v19 G20 G28 hf hk
    unfold f_X7_tellLosses_l80_21 at hf
    refine x_iload hc 6 dX7_tellLosses_80 rfl ?_
    refine x_bipush (v := 16) hc rfl dX7_tellLosses_82 ?_
    refine x_icmp_ge (tgt := 126) hc dX7_tellLosses_84 rfl (fun c_84 => ?_) (fun c_84 => ?_)
    · replace hf := if_p hf c_84
      cases hf
      exact x_sub [0, 1, 2, 3, 4] hk rfl
    · replace hf := if_n hf c_84
      refine x_iload hc 6 dX7_tellLosses_87 rfl ?_
      refine x_iload hc 2 dX7_tellLosses_89 rfl ?_
      refine x_iconst (v := (-1)) hc rfl dX7_tellLosses_91 ?_
      refine x_ixor hc dX7_tellLosses_92 ?_
      refine x_iand hc dX7_tellLosses_93 ?_
      obtain ⟨G27, hr, hf⟩ := bj1_ok hf
      have hj_120_22 : X K 120 [(0, .ref (kad K 0)), (1, .int a1), (5, .int x11), (6, .int x12), (7, .int v14), (8, .int x17), (9, .int v19)] [] G27 := by
        clear hr
        refine x_iinc (v := v19 + 1) (L' := [(0, .ref (kad K 0)), (1, .int a1), (5, .int x11), (6, .int x12), (7, .int v14), (8, .int x17), (9, .int (v19 + 1))]) hc 6 [1, 2, 3, 4, 5, 6, 0] dX7_tellLosses_120 rfl rfl (by decide) rfl ?_
        refine x_goto (tgt := 80) hc dX7_tellLosses_123 rfl ?_
        exact x_sub [0, 1, 2, 3, 4, 5, 6] (ih _ _ _ hf hk) rfl
      replace hf := hr
      clear hr
      refine x_if_ne (tgt := 120) hc dX7_tellLosses_94 rfl (fun c_94 => ?_) (fun c_94 => ?_)
      · replace hf := if_n hf c_94
        cases hf
        exact x_sub [0, 1, 2, 3, 4, 5, 6] hj_120_22 rfl
      · replace hf := if_p hf c_94
        refine x_aload_n hc 0 dX7_tellLosses_97 rfl rfl ?_
        refine x_iload hc 6 dX7_tellLosses_98 rfl ?_
        obtain ⟨x23, r24, hf⟩ := bj1_ok hf
        refine x_callVr (As := [.int v19]) (p0 := 0) (v := (.int x23)) (T := TX7) hc (c_X7_ticksOf (kl K) (kV K) v19 G20 x23 r24) mw_X7_ticksOf tw_862 (rfl : kd 0 = 7) (by decide) rfl rfl (Nat.le_of_ble_eq_true rfl) ⟨Nat.le_of_ble_eq_true rfl, Nat.le_of_ble_eq_true rfl⟩ dX7_tellLosses_100 rfl ?_
        refine x_iload hc 4 dX7_tellLosses_103 rfl ?_
        refine x_icmp_ne (tgt := 120) hc dX7_tellLosses_105 rfl (fun c_105 => ?_) (fun c_105 => ?_)
        · replace hf := if_n hf c_105
          cases hf
          exact x_sub [0, 1, 2, 3, 4, 5, 6] hj_120_22 rfl
        · replace hf := if_p hf c_105
          refine x_aload_n hc 0 dX7_tellLosses_108 rfl rfl ?_
          refine x_getR (T := TX7) (p0 := 0) hc in_X7 rfl (by decide) (rfl : kd 0 = 7) 11 (by decide) tw_251 rfl rfl dX7_tellLosses_109 ?_
          refine x_iload_n hc 1 dX7_tellLosses_112 rfl rfl ?_
          refine x_iload hc 6 dX7_tellLosses_113 rfl ?_
          refine x_iload hc 5 dX7_tellLosses_115 rfl ?_
          obtain ⟨G25, r26, hf⟩ := bj1_ok hf
          refine x_callVv (As := [.int a1, .int v19, .int x17]) (p0 := 45) (T := TX1) hc (c_X1_setLoss (kl K) (kV K) a1 v19 x17 G20 G25 r26) mw_X1_setLoss tw_866 (sh_X7_fire (rfl : kd 0 = 7)) (by decide) rfl rfl (Nat.le_of_ble_eq_true rfl) ⟨Nat.le_of_ble_eq_true rfl, Nat.le_of_ble_eq_true rfl⟩ dX7_tellLosses_117 rfl ?_
          cases hf
          exact x_sub [0, 1, 2, 3, 4, 5, 6] hj_120_22 rfl
set_option maxHeartbeats 4000000 in
set_option maxRecDepth 100000 in
theorem c_X7_tellLosses_l61_16 {K : CT} (a1 : Int32) (x11 : Int32) (x12 : Int32) (hc : Ok K cX7_tellLosses RX7 (Cond.code yX7_tellLosses cX7_tellLosses 10 none :: TB) none 5 117 10)  : ∀ (n16 : Nat) (v14 : Int32) (G15 : G_) (G31 : G_), f_X7_tellLosses_l61_16 a1 x11 x12 n16 v14 G15 = some (G31) → X K 141 [] [] G31 → X K 61 [(0, .ref (kad K 0)), (1, .int a1), (5, .int x11), (6, .int x12), (7, .int v14)] [] G15 := by
  intro n16
  induction n16 with
  | zero =>
    intro v14 G15 G31 hf hk
    cases hf
  | succ n16 ih =>
    intro v14 G15 G31 hf hk
    unfold f_X7_tellLosses_l61_16 at hf
    refine x_iload hc 4 dX7_tellLosses_61 rfl ?_
    refine x_iload hc 3 dX7_tellLosses_63 rfl ?_
    refine x_icmp_gt (tgt := 141) hc dX7_tellLosses_65 rfl (fun c_65 => ?_) (fun c_65 => ?_)
    · replace hf := if_p hf c_65
      cases hf
      exact x_sub [] hk rfl
    · replace hf := if_n hf c_65
      refine x_aload_n hc 0 dX7_tellLosses_68 rfl rfl ?_
      refine x_getR (T := TX7) (p0 := 0) hc in_X7 rfl (by decide) (rfl : kd 0 = 7) 6 (by decide) tw_246 rfl rfl dX7_tellLosses_69 ?_
      obtain ⟨x17, r18, hf⟩ := bj1_ok hf
      refine x_callVr (As := []) (p0 := 17) (v := (.int x17)) (T := TX0) hc (c_X0_lossNow (kl K) (kV K) 17 G15 x17 r18) mw_X0_lossNow tw_541 (sh_X7_trial (rfl : kd 0 = 7)) (by decide) rfl rfl (Nat.le_of_ble_eq_true rfl) ⟨Nat.le_of_ble_eq_true rfl, Nat.le_of_ble_eq_true rfl⟩ dX7_tellLosses_72 rfl ?_
      refine x_istore (L' := [(0, .ref (kad K 0)), (1, .int a1), (5, .int x11), (6, .int x12), (7, .int v14), (8, .int x17)]) hc [1, 2, 3, 4, 5, 0] dX7_tellLosses_75 (by decide) rfl ?_
      refine x_iconst (v := 0) hc rfl dX7_tellLosses_77 ?_
      refine x_istore (L' := [(0, .ref (kad K 0)), (1, .int a1), (5, .int x11), (6, .int x12), (7, .int v14), (8, .int x17), (9, .int 0)]) hc [1, 2, 3, 4, 5, 6, 0] dX7_tellLosses_78 (by decide) rfl ?_
      obtain ⟨G28, hl_80, hf⟩ := bj1_ok hf
      have he_126_n21 : X K 126 [(0, .ref (kad K 0)), (1, .int a1), (5, .int x11), (6, .int x12), (7, .int v14)] [] G28 := by
        clear hl_80
        refine x_aload_n hc 0 dX7_tellLosses_126 rfl rfl ?_
        refine x_getR (T := TX7) (p0 := 0) hc in_X7 rfl (by decide) (rfl : kd 0 = 7) 6 (by decide) tw_246 rfl rfl dX7_tellLosses_127 ?_
        refine x_iconst (v := 4) hc rfl dX7_tellLosses_130 ?_
        refine x_iconst (v := 0) hc rfl dX7_tellLosses_131 ?_
        obtain ⟨G29, r30, hf⟩ := bj1_ok hf
        refine x_callVv (As := [.int 4, .int 0]) (p0 := 17) (T := TX0) hc (c_X0_heat (kl K) (kV K) 17 4 0 G28 G29 r30) mw_X0_heat tw_557 (sh_X7_trial (rfl : kd 0 = 7)) (by decide) rfl rfl (Nat.le_of_ble_eq_true rfl) ⟨Nat.le_of_ble_eq_true rfl, Nat.le_of_ble_eq_true rfl⟩ dX7_tellLosses_132 rfl ?_
        refine x_iinc (v := v14 + 1) (L' := [(0, .ref (kad K 0)), (1, .int a1), (5, .int x11), (6, .int x12), (7, .int (v14 + 1))]) hc 4 [1, 2, 3, 4, 0] dX7_tellLosses_135 rfl rfl (by decide) rfl ?_
        refine x_goto (tgt := 61) hc dX7_tellLosses_138 rfl ?_
        exact x_sub [0, 1, 2, 3, 4] (ih _ _ _ hf hk) rfl
      exact x_sub [0, 1, 2, 3, 4, 5, 6] (c_X7_tellLosses_l80_21 a1 x11 x12 v14 x17 hc  FU 0 G15 G28 hl_80 he_126_n21) rfl
set_option maxHeartbeats 4000000 in
set_option maxRecDepth 100000 in
theorem c_X7_tellLosses (l : Launch) (V : VT) (a1 : Int32) (a2 : Int32) (G : G_) (G' : G_) (hf : f_X7_tellLosses a1 a2 G = some G') : MC l V yX7_tellLosses cX7_tellLosses 10 none 5 117 [.ref (V.2.2.1 0), .int a1, .int a2] G none G' := by
  refine mc_of (by decide) (Nat.le_of_ble_eq_true rfl) (fun K hV ho hc hkl => ?_)
  subst hV
  replace hc : Ok K cX7_tellLosses RX7 (Cond.code yX7_tellLosses cX7_tellLosses 10 none :: TB) none 5 117 10 := hc
  replace ho : Rets K none G' := ho
  show X K 0 [(0, .ref (kad K 0)), (1, .int a1), (2, .int a2)] [] G
  unfold f_X7_tellLosses at hf
  refine x_aload_n hc 0 dX7_tellLosses_0 rfl rfl ?_
  refine x_iload_n hc 1 dX7_tellLosses_1 rfl rfl ?_
  obtain ⟨o1, r2, hf⟩ := bj1_ok hf
  refine x_callVr (As := [.int a1]) (p0 := 0) (v := (rfo K o1)) (T := TX7) hc (c_X7_slabAt (kl K) (kV K) a1 G o1 r2) mw_X7_slabAt tw_382 (rfl : kd 0 = 7) (by decide) rfl rfl (Nat.le_of_ble_eq_true rfl) ⟨Nat.le_of_ble_eq_true rfl, Nat.le_of_ble_eq_true rfl⟩ dX7_tellLosses_2 rfl ?_
  refine x_astore_nO (L' := [(0, .ref (kad K 0)), (1, .int a1), (2, .int a2), (3, rfo K o1)]) hc [1, 2, 3, 0] dX7_tellLosses_5 rfl (by decide) rfl ?_
  refine x_aload_n hc 0 dX7_tellLosses_6 rfl rfl ?_
  refine x_iload_n hc 1 dX7_tellLosses_7 rfl rfl ?_
  obtain ⟨o3, r4, hf⟩ := bj1_ok hf
  refine x_callVr (As := [.int a1]) (p0 := 0) (v := (rfo K o3)) (T := TX7) hc (c_X7_planAt (kl K) (kV K) a1 G o3 r4) mw_X7_planAt tw_302 (rfl : kd 0 = 7) (by decide) rfl rfl (Nat.le_of_ble_eq_true rfl) ⟨Nat.le_of_ble_eq_true rfl, Nat.le_of_ble_eq_true rfl⟩ dX7_tellLosses_8 rfl ?_
  refine x_astoreO (L' := [(0, .ref (kad K 0)), (1, .int a1), (2, .int a2), (3, rfo K o1), (4, rfo K o3)]) hc [1, 2, 3, 4, 0] dX7_tellLosses_11 (by decide) (by cases o1 <;> rfl) ?_
  refine x_aload_nO hc 3 dX7_tellLosses_13 rfl rfl ?_
  cases o1 with
  | none =>
    replace hf := mo_n hf
    show X K 14 [(0, .ref (kad K 0)), (1, .int a1), (2, .int a2), (3, .null), (4, rfo K o3)] [.null] G
    refine x_ifnullN (tgt := 22) hc dX7_tellLosses_14 rfl ?_
    cases hf
    exact x_vret hc rfl ho dX7_tellLosses_22
  | some p5 =>
    replace hf := mo_s hf
    obtain ⟨k6, hf⟩ := chk_ok hf
    show X K 14 [(0, .ref (kad K 0)), (1, .int a1), (2, .int a2), (3, .ref (kad K p5)), (4, rfo K o3)] [.ref (kad K p5)] G
    refine x_ifnullR hc dX7_tellLosses_14 ?_
    refine x_aloadO hc 4 dX7_tellLosses_17 rfl ?_
    cases o3 with
    | none =>
      replace hf := mo_n hf
      show X K 19 [(0, .ref (kad K 0)), (1, .int a1), (2, .int a2), (3, .ref (kad K p5)), (4, .null)] [.null] G
      refine x_ifnonnullN hc dX7_tellLosses_19 ?_
      cases hf
      exact x_vret hc rfl ho dX7_tellLosses_22
    | some p7 =>
      replace hf := mo_s hf
      obtain ⟨k8, hf⟩ := chk_ok hf
      show X K 19 [(0, .ref (kad K 0)), (1, .int a1), (2, .int a2), (3, .ref (kad K p5)), (4, .ref (kad K p7))] [.ref (kad K p7)] G
      refine x_ifnonnullR (tgt := 23) hc dX7_tellLosses_19 rfl ?_
      refine x_aload_n hc 0 dX7_tellLosses_23 rfl rfl ?_
      refine x_getR (T := TX7) (p0 := 0) hc in_X7 rfl (by decide) (rfl : kd 0 = 7) 6 (by decide) tw_246 rfl rfl dX7_tellLosses_24 ?_
      refine x_aload_n hc 3 dX7_tellLosses_27 rfl rfl ?_
      refine x_aload_n hc 3 dX7_tellLosses_28 rfl rfl ?_
      refine x_getI (T := TX5) (p0 := p5) hc in_X5 rfl (by decide) (kdb k6) 1 (by decide) tw_173 rfl rfl dX7_tellLosses_29 ?_
      refine x_aload_n hc 3 dX7_tellLosses_32 rfl rfl ?_
      refine x_getI (T := TX5) (p0 := p5) hc in_X5 rfl (by decide) (kdb k6) 3 (by decide) tw_180 rfl rfl dX7_tellLosses_33 ?_
      refine x_aload hc 4 dX7_tellLosses_36 rfl ?_
      obtain ⟨G9, r10, hf⟩ := bj1_ok hf
      refine x_callVv (As := [.ref (kad K p5), .int (G.1 p5 1), .int (G.1 p5 3), .ref (kad K p7)]) (p0 := 17) (T := TX0) hc (c_X0_makeByPlan (kl K) (kV K) 17 p5 (G.1 p5 1) (G.1 p5 3) p7 G G9 r10) mw_X0_makeByPlan tw_562 (sh_X7_trial (rfl : kd 0 = 7)) (by decide) rfl rfl (Nat.le_of_ble_eq_true rfl) ⟨Nat.le_of_ble_eq_true rfl, Nat.le_of_ble_eq_true rfl⟩ dX7_tellLosses_38 rfl ?_
      refine x_iload_n hc 2 dX7_tellLosses_41 rfl rfl ?_
      refine x_iconst (v := 1) hc rfl dX7_tellLosses_42 ?_
      refine x_iload_n hc 1 dX7_tellLosses_43 rfl rfl ?_
      refine x_ishl hc dX7_tellLosses_44 ?_
      refine x_iconst (v := (-1)) hc rfl dX7_tellLosses_45 ?_
      refine x_ixor hc dX7_tellLosses_46 ?_
      refine x_iand hc dX7_tellLosses_47 ?_
      refine x_nmi (fun x11 e_x11 => ?_)
      replace hf := nm_ok hf x11 e_x11
      refine x_istore (L' := [(0, .ref (kad K 0)), (1, .int a1), (5, .int x11)]) hc [1, 2, 0] dX7_tellLosses_48 (by decide) rfl ?_
      refine x_aload_n hc 0 dX7_tellLosses_50 rfl rfl ?_
      refine x_iload hc 2 dX7_tellLosses_51 rfl ?_
      obtain ⟨x12, r13, hf⟩ := bj1_ok hf
      refine x_callVr (As := [.int x11]) (p0 := 0) (v := (.int x12)) (T := TX7) hc (c_X7_ticksOf (kl K) (kV K) x11 G9 x12 r13) mw_X7_ticksOf tw_862 (rfl : kd 0 = 7) (by decide) rfl rfl (Nat.le_of_ble_eq_true rfl) ⟨Nat.le_of_ble_eq_true rfl, Nat.le_of_ble_eq_true rfl⟩ dX7_tellLosses_53 rfl ?_
      refine x_istore (L' := [(0, .ref (kad K 0)), (1, .int a1), (5, .int x11), (6, .int x12)]) hc [1, 2, 3, 0] dX7_tellLosses_56 (by decide) rfl ?_
      refine x_iconst (v := 0) hc rfl dX7_tellLosses_58 ?_
      refine x_istore (L' := [(0, .ref (kad K 0)), (1, .int a1), (5, .int x11), (6, .int x12), (7, .int 0)]) hc [1, 2, 3, 4, 0] dX7_tellLosses_59 (by decide) rfl ?_
      obtain ⟨G31, hl_61, hf⟩ := bj1_ok hf
      have he_141_n16 : X K 141 [] [] G31 := by
        clear hl_61
        cases hf
        exact x_vret hc rfl ho dX7_tellLosses_141
      exact x_sub [0, 1, 2, 3, 4] (c_X7_tellLosses_l61_16 a1 x11 x12 hc  FU 0 G9 G31 hl_61 he_141_n16) rfl
def f_X7_leastUnlike_l4_4 (a1 : Nat) : Nat → Int32 → Int32 → G_ → Option (Int32 × G_)
  | 0, _, _, _ => none
  | n4 + 1, v1, v2, G3 =>
    if 16 ≤ v2 then (
      some (v1, G3))
    else (
      bj1 (f_X7_slabAt (v2 / 4) G3) fun o5 =>
      bj1 (f_X7_planAt (v2 - v2 / 4 * 4) G3) fun o7 =>
      chk (inb v2 16) <|
      nm (sI G3 48 (ix v2) (-1)) fun G10 =>
      mo o5 (
        f_X7_leastUnlike_l4_4 a1 n4 v1 (v2 + 1) G10) (fun p26 =>
        chk (kd p26 == 5) <|
        mo o7 (
          f_X7_leastUnlike_l4_4 a1 n4 v1 (v2 + 1) G10) (fun p41 =>
          chk (kd p41 == 2) <|
          if G10.1 p26 0 = 0 then (
            f_X7_leastUnlike_l4_4 a1 n4 v1 (v2 + 1) G10)
          else (
            if G10.1 p41 3 = 0 then (
              f_X7_leastUnlike_l4_4 a1 n4 v1 (v2 + 1) G10)
            else (
              if G10.1 p26 1 = G10.1 a1 1 then (
                bj1 (f_X0_makeByPlan 17 p26 (G10.1 p26 1) (G10.1 p26 3) p41 G10) fun G76 =>
                bj1 (f_X0_unlikeRow 17 a1 G76) fun x78 =>
                chk (inb v2 16) <|
                nm (sI G76 48 (ix v2) x78) fun G81 =>
                bj1 (
                  if 0 ≤ v1 then (
                    chk (inb v2 16) <|
                    some (mn v1 (G81.1 48 (ix v2))))
                  else (
                    chk (inb v2 16) <|
                    some (G81.1 48 (ix v2)))) fun (x85 : Int32) =>
                f_X7_leastUnlike_l4_4 a1 n4 x85 (v2 + 1) G81)
              else (
                f_X7_leastUnlike_l4_4 a1 n4 v1 (v2 + 1) G10))))))
def f_X7_leastUnlike (a1 : Nat) (G : G_) : Option (Int32 × G_) :=
  chk (kd a1 == 4) <|
  bj2 (f_X7_leastUnlike_l4_4 a1 FU (-1) 0 G) fun x86 G87 =>
  some (x86, G87)
set_option maxHeartbeats 4000000 in
set_option maxRecDepth 100000 in
theorem c_X7_leastUnlike_l4_4 {K : CT} (a1 : Nat) (hc : Ok K cX7_leastUnlike RX7 (Cond.code yX7_leastUnlike cX7_leastUnlike 6 (some .int) :: TB) (some .int) 5 117 6) (k_a1 : (kd a1 == 4) = true) : ∀ (n4 : Nat) (v1 : Int32) (v2 : Int32) (G3 : G_) (x86 : Int32) (G87 : G_), f_X7_leastUnlike_l4_4 a1 n4 v1 v2 G3 = some (x86, G87) → X K 141 [(2, .int x86)] [] G87 → X K 4 [(0, .ref (kad K 0)), (1, .ref (kad K a1)), (2, .int v1), (3, .int v2)] [] G3 := by
  intro n4
  induction n4 with
  | zero =>
    intro v1 v2 G3 x86 G87 hf hk
    cases hf
  | succ n4 ih =>
    intro v1 v2 G3 x86 G87 hf hk
    unfold f_X7_leastUnlike_l4_4 at hf
    refine x_iload_n hc 3 dX7_leastUnlike_4 rfl rfl ?_
    refine x_aload_n hc 0 dX7_leastUnlike_5 rfl rfl ?_
    refine x_getR (T := TX7) (p0 := 0) hc in_X7 rfl (by decide) (rfl : kd 0 = 7) 12 (by decide) tw_252 rfl rfl dX7_leastUnlike_6 ?_
    refine x_alenI (p0 := 48) (v := 16) hc (sh_X7_unlike (rfl : kd 0 = 7)).1 (by decide) (by decide) (sh_X7_unlike (rfl : kd 0 = 7)).2 rfl dX7_leastUnlike_9 ?_
    refine x_icmp_ge (tgt := 141) hc dX7_leastUnlike_10 rfl (fun c_10 => ?_) (fun c_10 => ?_)
    · replace hf := if_p hf c_10
      cases hf
      exact x_sub [2] hk rfl
    · replace hf := if_n hf c_10
      refine x_aload_n hc 0 dX7_leastUnlike_13 rfl rfl ?_
      refine x_iload_n hc 3 dX7_leastUnlike_14 rfl rfl ?_
      refine x_iconst (v := 4) hc rfl dX7_leastUnlike_15 ?_
      refine x_idiv hc (by decide) dX7_leastUnlike_16 ?_
      obtain ⟨o5, r6, hf⟩ := bj1_ok hf
      refine x_callVr (As := [.int (v2 / 4)]) (p0 := 0) (v := (rfo K o5)) (T := TX7) hc (c_X7_slabAt (kl K) (kV K) (v2 / 4) G3 o5 r6) mw_X7_slabAt tw_382 (rfl : kd 0 = 7) (by decide) rfl rfl (Nat.le_of_ble_eq_true rfl) ⟨Nat.le_of_ble_eq_true rfl, Nat.le_of_ble_eq_true rfl⟩ dX7_leastUnlike_17 rfl ?_
      refine x_astoreO (L' := [(0, .ref (kad K 0)), (1, .ref (kad K a1)), (2, .int v1), (3, .int v2), (4, rfo K o5)]) hc [1, 2, 3, 4, 0] dX7_leastUnlike_20 (by decide) rfl ?_
      refine x_aload_n hc 0 dX7_leastUnlike_22 rfl rfl ?_
      refine x_iload_n hc 3 dX7_leastUnlike_23 rfl rfl ?_
      refine x_iconst (v := 4) hc rfl dX7_leastUnlike_24 ?_
      refine x_irem hc (by decide) dX7_leastUnlike_25 ?_
      obtain ⟨o7, r8, hf⟩ := bj1_ok hf
      refine x_callVr (As := [.int (v2 - v2 / 4 * 4)]) (p0 := 0) (v := (rfo K o7)) (T := TX7) hc (c_X7_planAt (kl K) (kV K) (v2 - v2 / 4 * 4) G3 o7 r8) mw_X7_planAt tw_302 (rfl : kd 0 = 7) (by decide) rfl rfl (Nat.le_of_ble_eq_true rfl) ⟨Nat.le_of_ble_eq_true rfl, Nat.le_of_ble_eq_true rfl⟩ dX7_leastUnlike_26 rfl ?_
      refine x_astoreO (L' := [(0, .ref (kad K 0)), (1, .ref (kad K a1)), (2, .int v1), (3, .int v2), (4, rfo K o5), (5, rfo K o7)]) hc [1, 2, 3, 4, 5, 0] dX7_leastUnlike_29 (by decide) (by cases o5 <;> rfl) ?_
      refine x_aload_n hc 0 dX7_leastUnlike_31 rfl rfl ?_
      refine x_getR (T := TX7) (p0 := 0) hc in_X7 rfl (by decide) (rfl : kd 0 = 7) 12 (by decide) tw_252 rfl rfl dX7_leastUnlike_32 ?_
      refine x_iload_n hc 3 dX7_leastUnlike_35 rfl rfl ?_
      refine x_iconst (v := (-1)) hc rfl dX7_leastUnlike_36 ?_
      obtain ⟨h9, hf⟩ := chk_ok hf
      refine x_iastore (p0 := 48) hc (sh_X7_unlike (rfl : kd 0 = 7)).1 (sh_X7_unlike (rfl : kd 0 = 7)).2 h9 dX7_leastUnlike_37 ?_
      refine x_nmg (fun G10 e_G10 => ?_)
      replace hf := nm_ok hf G10 e_G10
      refine x_aloadO hc 4 dX7_leastUnlike_38 rfl ?_
      cases o5 with
      | none =>
        replace hf := mo_n hf
        show X K 40 [(0, .ref (kad K 0)), (1, .ref (kad K a1)), (2, .int v1), (3, .int v2), (4, .null), (5, rfo K o7)] [.null] G10
        refine x_ifnullN (tgt := 135) hc dX7_leastUnlike_40 rfl ?_
        refine x_iinc (v := v2 + 1) (L' := [(0, .ref (kad K 0)), (1, .ref (kad K a1)), (2, .int v1), (3, .int (v2 + 1))]) hc 3 [1, 2, 3, 0] dX7_leastUnlike_135 rfl rfl (by decide) rfl ?_
        refine x_goto (tgt := 4) hc dX7_leastUnlike_138 rfl ?_
        exact x_sub [0, 1, 2, 3] (ih _ _ _ _ _ hf hk) rfl
      | some p26 =>
        replace hf := mo_s hf
        obtain ⟨k27, hf⟩ := chk_ok hf
        show X K 40 [(0, .ref (kad K 0)), (1, .ref (kad K a1)), (2, .int v1), (3, .int v2), (4, .ref (kad K p26)), (5, rfo K o7)] [.ref (kad K p26)] G10
        refine x_ifnullR hc dX7_leastUnlike_40 ?_
        refine x_aloadO hc 5 dX7_leastUnlike_43 rfl ?_
        cases o7 with
        | none =>
          replace hf := mo_n hf
          show X K 45 [(0, .ref (kad K 0)), (1, .ref (kad K a1)), (2, .int v1), (3, .int v2), (4, .ref (kad K p26)), (5, .null)] [.null] G10
          refine x_ifnullN (tgt := 135) hc dX7_leastUnlike_45 rfl ?_
          refine x_iinc (v := v2 + 1) (L' := [(0, .ref (kad K 0)), (1, .ref (kad K a1)), (2, .int v1), (3, .int (v2 + 1))]) hc 3 [1, 2, 3, 0] dX7_leastUnlike_135 rfl rfl (by decide) rfl ?_
          refine x_goto (tgt := 4) hc dX7_leastUnlike_138 rfl ?_
          exact x_sub [0, 1, 2, 3] (ih _ _ _ _ _ hf hk) rfl
        | some p41 =>
          replace hf := mo_s hf
          obtain ⟨k42, hf⟩ := chk_ok hf
          show X K 45 [(0, .ref (kad K 0)), (1, .ref (kad K a1)), (2, .int v1), (3, .int v2), (4, .ref (kad K p26)), (5, .ref (kad K p41))] [.ref (kad K p41)] G10
          refine x_ifnullR hc dX7_leastUnlike_45 ?_
          refine x_aload hc 4 dX7_leastUnlike_48 rfl ?_
          refine x_getI (T := TX5) (p0 := p26) hc in_X5 rfl (by decide) (kdb k27) 0 (by decide) tw_169 rfl rfl dX7_leastUnlike_50 ?_
          refine x_if_eq (tgt := 135) hc dX7_leastUnlike_53 rfl (fun c_53 => ?_) (fun c_53 => ?_)
          · replace hf := if_p hf c_53
            refine x_iinc (v := v2 + 1) (L' := [(0, .ref (kad K 0)), (1, .ref (kad K a1)), (2, .int v1), (3, .int (v2 + 1))]) hc 3 [1, 2, 3, 0] dX7_leastUnlike_135 rfl rfl (by decide) rfl ?_
            refine x_goto (tgt := 4) hc dX7_leastUnlike_138 rfl ?_
            exact x_sub [0, 1, 2, 3] (ih _ _ _ _ _ hf hk) rfl
          · replace hf := if_n hf c_53
            refine x_aload hc 5 dX7_leastUnlike_56 rfl ?_
            refine x_getI (T := TX2) (p0 := p41) hc in_X2 rfl (by decide) (kdb k42) 3 (by decide) tw_70 rfl rfl dX7_leastUnlike_58 ?_
            refine x_if_eq (tgt := 135) hc dX7_leastUnlike_61 rfl (fun c_61 => ?_) (fun c_61 => ?_)
            · replace hf := if_p hf c_61
              refine x_iinc (v := v2 + 1) (L' := [(0, .ref (kad K 0)), (1, .ref (kad K a1)), (2, .int v1), (3, .int (v2 + 1))]) hc 3 [1, 2, 3, 0] dX7_leastUnlike_135 rfl rfl (by decide) rfl ?_
              refine x_goto (tgt := 4) hc dX7_leastUnlike_138 rfl ?_
              exact x_sub [0, 1, 2, 3] (ih _ _ _ _ _ hf hk) rfl
            · replace hf := if_n hf c_61
              refine x_aload hc 4 dX7_leastUnlike_64 rfl ?_
              refine x_getI (T := TX5) (p0 := p26) hc in_X5 rfl (by decide) (kdb k27) 1 (by decide) tw_173 rfl rfl dX7_leastUnlike_66 ?_
              refine x_aload_n hc 1 dX7_leastUnlike_69 rfl rfl ?_
              refine x_getI (T := TX4) (p0 := a1) hc in_X4 rfl (by decide) (kdb k_a1) 1 (by decide) tw_220 rfl rfl dX7_leastUnlike_70 ?_
              refine x_icmp_ne (tgt := 135) hc dX7_leastUnlike_73 rfl (fun c_73 => ?_) (fun c_73 => ?_)
              · replace hf := if_n hf c_73
                refine x_iinc (v := v2 + 1) (L' := [(0, .ref (kad K 0)), (1, .ref (kad K a1)), (2, .int v1), (3, .int (v2 + 1))]) hc 3 [1, 2, 3, 0] dX7_leastUnlike_135 rfl rfl (by decide) rfl ?_
                refine x_goto (tgt := 4) hc dX7_leastUnlike_138 rfl ?_
                exact x_sub [0, 1, 2, 3] (ih _ _ _ _ _ hf hk) rfl
              · replace hf := if_p hf c_73
                refine x_aload_n hc 0 dX7_leastUnlike_76 rfl rfl ?_
                refine x_getR (T := TX7) (p0 := 0) hc in_X7 rfl (by decide) (rfl : kd 0 = 7) 6 (by decide) tw_246 rfl rfl dX7_leastUnlike_77 ?_
                refine x_aload hc 4 dX7_leastUnlike_80 rfl ?_
                refine x_aload hc 4 dX7_leastUnlike_82 rfl ?_
                refine x_getI (T := TX5) (p0 := p26) hc in_X5 rfl (by decide) (kdb k27) 1 (by decide) tw_173 rfl rfl dX7_leastUnlike_84 ?_
                refine x_aload hc 4 dX7_leastUnlike_87 rfl ?_
                refine x_getI (T := TX5) (p0 := p26) hc in_X5 rfl (by decide) (kdb k27) 3 (by decide) tw_180 rfl rfl dX7_leastUnlike_89 ?_
                refine x_aload hc 5 dX7_leastUnlike_92 rfl ?_
                obtain ⟨G76, r77, hf⟩ := bj1_ok hf
                refine x_callVv (As := [.ref (kad K p26), .int (G10.1 p26 1), .int (G10.1 p26 3), .ref (kad K p41)]) (p0 := 17) (T := TX0) hc (c_X0_makeByPlan (kl K) (kV K) 17 p26 (G10.1 p26 1) (G10.1 p26 3) p41 G10 G76 r77) mw_X0_makeByPlan tw_562 (sh_X7_trial (rfl : kd 0 = 7)) (by decide) rfl rfl (Nat.le_of_ble_eq_true rfl) ⟨Nat.le_of_ble_eq_true rfl, Nat.le_of_ble_eq_true rfl⟩ dX7_leastUnlike_94 rfl ?_
                refine x_aload_n hc 0 dX7_leastUnlike_97 rfl rfl ?_
                refine x_getR (T := TX7) (p0 := 0) hc in_X7 rfl (by decide) (rfl : kd 0 = 7) 12 (by decide) tw_252 rfl rfl dX7_leastUnlike_98 ?_
                refine x_iload_n hc 3 dX7_leastUnlike_101 rfl rfl ?_
                refine x_aload_n hc 0 dX7_leastUnlike_102 rfl rfl ?_
                refine x_getR (T := TX7) (p0 := 0) hc in_X7 rfl (by decide) (rfl : kd 0 = 7) 6 (by decide) tw_246 rfl rfl dX7_leastUnlike_103 ?_
                refine x_aload_n hc 1 dX7_leastUnlike_106 rfl rfl ?_
                obtain ⟨x78, r79, hf⟩ := bj1_ok hf
                refine x_callVr (As := [.ref (kad K a1)]) (p0 := 17) (v := (.int x78)) (T := TX0) hc (c_X0_unlikeRow (kl K) (kV K) 17 a1 G76 x78 r79) mw_X0_unlikeRow tw_587 (sh_X7_trial (rfl : kd 0 = 7)) (by decide) rfl rfl (Nat.le_of_ble_eq_true rfl) ⟨Nat.le_of_ble_eq_true rfl, Nat.le_of_ble_eq_true rfl⟩ dX7_leastUnlike_107 rfl ?_
                obtain ⟨h80, hf⟩ := chk_ok hf
                refine x_iastore (p0 := 48) hc (sh_X7_unlike (rfl : kd 0 = 7)).1 (sh_X7_unlike (rfl : kd 0 = 7)).2 h80 dX7_leastUnlike_110 ?_
                refine x_nmg (fun G81 e_G81 => ?_)
                replace hf := nm_ok hf G81 e_G81
                refine x_iload_n hc 2 dX7_leastUnlike_111 rfl rfl ?_
                obtain ⟨x85, hr, hf⟩ := bj1_ok hf
                have hj_134_82 : X K 134 [(0, .ref (kad K 0)), (1, .ref (kad K a1)), (3, .int v2)] [.int x85] G81 := by
                  clear hr
                  refine x_istore_n (L' := [(0, .ref (kad K 0)), (1, .ref (kad K a1)), (2, .int x85), (3, .int v2)]) hc [1, 2, 0, 3] dX7_leastUnlike_134 rfl (by decide) rfl ?_
                  refine x_iinc (v := v2 + 1) (L' := [(0, .ref (kad K 0)), (1, .ref (kad K a1)), (2, .int x85), (3, .int (v2 + 1))]) hc 3 [1, 2, 3, 0] dX7_leastUnlike_135 rfl rfl (by decide) rfl ?_
                  refine x_goto (tgt := 4) hc dX7_leastUnlike_138 rfl ?_
                  exact x_sub [0, 1, 2, 3] (ih _ _ _ _ _ hf hk) rfl
                replace hf := hr
                clear hr
                refine x_if_ge (tgt := 124) hc dX7_leastUnlike_112 rfl (fun c_112 => ?_) (fun c_112 => ?_)
                · replace hf := if_p hf c_112
                  refine x_iload_n hc 2 dX7_leastUnlike_124 rfl rfl ?_
                  refine x_aload_n hc 0 dX7_leastUnlike_125 rfl rfl ?_
                  refine x_getR (T := TX7) (p0 := 0) hc in_X7 rfl (by decide) (rfl : kd 0 = 7) 12 (by decide) tw_252 rfl rfl dX7_leastUnlike_126 ?_
                  refine x_iload_n hc 3 dX7_leastUnlike_129 rfl rfl ?_
                  obtain ⟨h83, hf⟩ := chk_ok hf
                  refine x_iaload (p0 := 48) hc (sh_X7_unlike (rfl : kd 0 = 7)).1 (sh_X7_unlike (rfl : kd 0 = 7)).2 h83 dX7_leastUnlike_130 ?_
                  refine x_mmin hc tw_593 tw_391 tw_36 tw_392 (Nat.le_of_ble_eq_true rfl) (Nat.le_of_ble_eq_true rfl) dX7_leastUnlike_131 ?_
                  cases hf
                  exact x_sub [0, 1, 3] hj_134_82 rfl
                · replace hf := if_n hf c_112
                  refine x_aload_n hc 0 dX7_leastUnlike_115 rfl rfl ?_
                  refine x_getR (T := TX7) (p0 := 0) hc in_X7 rfl (by decide) (rfl : kd 0 = 7) 12 (by decide) tw_252 rfl rfl dX7_leastUnlike_116 ?_
                  refine x_iload_n hc 3 dX7_leastUnlike_119 rfl rfl ?_
                  obtain ⟨h84, hf⟩ := chk_ok hf
                  refine x_iaload (p0 := 48) hc (sh_X7_unlike (rfl : kd 0 = 7)).1 (sh_X7_unlike (rfl : kd 0 = 7)).2 h84 dX7_leastUnlike_120 ?_
                  refine x_goto (tgt := 134) hc dX7_leastUnlike_121 rfl ?_
                  cases hf
                  exact x_sub [0, 1, 3] hj_134_82 rfl
set_option maxHeartbeats 4000000 in
set_option maxRecDepth 100000 in
theorem c_X7_leastUnlike (l : Launch) (V : VT) (a1 : Nat) (G : G_) (r : Int32) (G' : G_) (hf : f_X7_leastUnlike a1 G = some (r, G')) : MC l V yX7_leastUnlike cX7_leastUnlike 6 (some .int) 5 117 [.ref (V.2.2.1 0), .ref (V.2.2.1 a1)] G (some (.int r)) G' := by
  refine mc_of (by decide) (Nat.le_of_ble_eq_true rfl) (fun K hV ho hc hkl => ?_)
  subst hV
  replace hc : Ok K cX7_leastUnlike RX7 (Cond.code yX7_leastUnlike cX7_leastUnlike 6 (some .int) :: TB) (some .int) 5 117 6 := hc
  replace ho : Rets K (some (.int r)) G' := ho
  show X K 0 [(0, .ref (kad K 0)), (1, .ref (kad K a1))] [] G
  unfold f_X7_leastUnlike at hf
  obtain ⟨k_a1, hf⟩ := chk_ok hf
  refine x_iconst (v := (-1)) hc rfl dX7_leastUnlike_0 ?_
  refine x_istore_n (L' := [(0, .ref (kad K 0)), (1, .ref (kad K a1)), (2, .int (-1))]) hc [1, 2, 0] dX7_leastUnlike_1 rfl (by decide) rfl ?_
  refine x_iconst (v := 0) hc rfl dX7_leastUnlike_2 ?_
  refine x_istore_n (L' := [(0, .ref (kad K 0)), (1, .ref (kad K a1)), (2, .int (-1)), (3, .int 0)]) hc [1, 2, 3, 0] dX7_leastUnlike_3 rfl (by decide) rfl ?_
  obtain ⟨x86, G87, hl_4, hf⟩ := bj2_ok hf
  have he_141_n4 : X K 141 [(2, .int x86)] [] G87 := by
    clear hl_4
    refine x_iload_n hc 0 dX7_leastUnlike_141 rfl rfl ?_
    cases hf
    exact x_iret hc rfl ho dX7_leastUnlike_142
  exact x_sub [0, 1, 2, 3] (c_X7_leastUnlike_l4_4 a1 hc k_a1 FU (-1) 0 G x86 G87 hl_4 he_141_n4) rfl
def f_X7_order_l64_11 (a1 : Int32) (p3 : Nat) : Nat → Int32 → G_ → Option (G_)
  | 0, _, _ => none
  | n11 + 1, v9, G10 =>
    if 4 ≤ v9 then (
      some (G10))
    else (
      bj1 (f_X7_isIn v9 a1) fun x12 =>
      bj1 (
        if x12 = 0 then (
          some (G10))
        else (
          bj1 (f_X7_tellLosses v9 a1 G10) fun G15 =>
          some (G15))) fun (G17 : G_) =>
      f_X7_order_l64_11 a1 p3 n11 (v9 + 1) G17)
def f_X7_order_l111_27 (p3 : Nat) : Nat → Int32 → G_ → Option (G_)
  | 0, _, _ => none
  | n27 + 1, v25, G26 =>
    if G26.1 p3 1 ≤ v25 then (
      some (G26))
    else (
      bj1 (f_X1_bestAt v25 G26) fun x28 =>
      bj1 (f_X4_set p3 v25 x28 G26) fun G30 =>
      f_X7_order_l111_27 p3 n27 (v25 + 1) G30)
def f_X7_order_l25_8 (a1 : Int32) (p3 : Nat) (G : G_) : Nat → Int32 → Option (Int32 × G_)
  | 0, _ => none
  | n8 + 1, v7 =>
    if 4 ≤ v7 then (
      bj1 (f_X7_order_l64_11 a1 p3 FU 0 G) fun G18 =>
      bj1 (f_X1_findBest a1 G18) fun G19 =>
      bj1 (f_J6_bitCount_0f7a4 a1) fun x21 =>
      bj1 (f_X4_begin p3 x21 G19) fun G23 =>
      bj1 (f_X7_order_l111_27 p3 FU 0 G23) fun G32 =>
      some (G32.1 45 2, G32))
    else (
      bj1 (f_X7_isIn v7 a1) fun x33 =>
      if x33 = 0 then (
        f_X7_order_l25_8 a1 p3 G n8 (v7 + 1))
      else (
        bj1 (f_X7_hasBoth v7 G) fun x41 =>
        if x41 = 0 then (
          bj2 (f_X7_found 1 G) fun x44 G43 =>
          some (x44, G43))
        else (
          f_X7_order_l25_8 a1 p3 G n8 (v7 + 1))))
def f_X7_order (a1 : Int32) (a2 : Int32) (G : G_) : Option (Int32 × G_) :=
  bj1 (f_X7_rowAt a2 G) fun o1 =>
  mo o1 (
    some ((-1), G)) (fun p3 =>
    chk (kd p3 == 4) <|
    bj1 (f_X7_within a1 1 15) fun x5 =>
    if x5 = 0 then (
      some ((-1), G))
    else (
      f_X7_order_l25_8 a1 p3 G FU 0))
set_option maxHeartbeats 4000000 in
set_option maxRecDepth 100000 in
theorem c_X7_order_l64_11 {K : CT} (a1 : Int32) (p3 : Nat) (hc : Ok K cX7_order RX7 (Cond.code yX7_order cX7_order 5 (some .int) :: TB) (some .int) 6 146 5)  : ∀ (n11 : Nat) (v9 : Int32) (G10 : G_) (G18 : G_), f_X7_order_l64_11 a1 p3 n11 v9 G10 = some (G18) → X K 92 [(0, .ref (kad K 0)), (1, .int a1), (3, .ref (kad K p3))] [] G18 → X K 64 [(0, .ref (kad K 0)), (1, .int a1), (3, .ref (kad K p3)), (4, .int v9)] [] G10 := by
  intro n11
  induction n11 with
  | zero =>
    intro v9 G10 G18 hf hk
    cases hf
  | succ n11 ih =>
    intro v9 G10 G18 hf hk
    unfold f_X7_order_l64_11 at hf
    refine x_iload hc 3 dX7_order_64 rfl ?_
    refine x_iconst (v := 4) hc rfl dX7_order_66 ?_
    refine x_icmp_ge (tgt := 92) hc dX7_order_67 rfl (fun c_67 => ?_) (fun c_67 => ?_)
    · replace hf := if_p hf c_67
      cases hf
      exact x_sub [0, 1, 2] hk rfl
    · replace hf := if_n hf c_67
      refine x_iload hc 3 dX7_order_70 rfl ?_
      refine x_iload_n hc 1 dX7_order_72 rfl rfl ?_
      obtain ⟨x12, r13, hf⟩ := bj1_ok hf
      refine x_callSr (As := [.int v9, .int a1]) (v := (.int x12)) hc (c_X7_isIn (kl K) (kV K) v9 a1 G10 x12 r13) mw_X7_isIn tw_851 rfl (Nat.le_of_ble_eq_true rfl) ⟨Nat.le_of_ble_eq_true rfl, Nat.le_of_ble_eq_true rfl⟩ dX7_order_73 rfl ?_
      obtain ⟨G17, hr, hf⟩ := bj1_ok hf
      have hj_86_14 : X K 86 [(0, .ref (kad K 0)), (1, .int a1), (3, .ref (kad K p3)), (4, .int v9)] [] G17 := by
        clear hr
        refine x_iinc (v := v9 + 1) (L' := [(0, .ref (kad K 0)), (1, .int a1), (3, .ref (kad K p3)), (4, .int (v9 + 1))]) hc 3 [1, 2, 3, 0] dX7_order_86 rfl rfl (by decide) rfl ?_
        refine x_goto (tgt := 64) hc dX7_order_89 rfl ?_
        exact x_sub [0, 1, 2, 3] (ih _ _ _ hf hk) rfl
      replace hf := hr
      clear hr
      refine x_if_eq (tgt := 86) hc dX7_order_76 rfl (fun c_76 => ?_) (fun c_76 => ?_)
      · replace hf := if_p hf c_76
        cases hf
        exact x_sub [0, 1, 2, 3] hj_86_14 rfl
      · replace hf := if_n hf c_76
        refine x_aload_n hc 0 dX7_order_79 rfl rfl ?_
        refine x_iload hc 3 dX7_order_80 rfl ?_
        refine x_iload_n hc 1 dX7_order_82 rfl rfl ?_
        obtain ⟨G15, r16, hf⟩ := bj1_ok hf
        refine x_callVv (As := [.int v9, .int a1]) (p0 := 0) (T := TX7) hc (c_X7_tellLosses (kl K) (kV K) v9 a1 G10 G15 r16) mw_X7_tellLosses tw_858 (rfl : kd 0 = 7) (by decide) rfl rfl (Nat.le_of_ble_eq_true rfl) ⟨Nat.le_of_ble_eq_true rfl, Nat.le_of_ble_eq_true rfl⟩ dX7_order_83 rfl ?_
        cases hf
        exact x_sub [0, 1, 2, 3] hj_86_14 rfl
set_option maxHeartbeats 4000000 in
set_option maxRecDepth 100000 in
theorem c_X7_order_l111_27 {K : CT} (p3 : Nat) (hc : Ok K cX7_order RX7 (Cond.code yX7_order cX7_order 5 (some .int) :: TB) (some .int) 6 146 5) (k4 : (kd p3 == 4) = true) : ∀ (n27 : Nat) (v25 : Int32) (G26 : G_) (G32 : G_), f_X7_order_l111_27 p3 n27 v25 G26 = some (G32) → X K 141 [(0, .ref (kad K 0))] [] G32 → X K 111 [(0, .ref (kad K 0)), (3, .ref (kad K p3)), (4, .int v25)] [] G26 := by
  intro n27
  induction n27 with
  | zero =>
    intro v25 G26 G32 hf hk
    cases hf
  | succ n27 ih =>
    intro v25 G26 G32 hf hk
    unfold f_X7_order_l111_27 at hf
    refine x_iload hc 2 dX7_order_111 rfl ?_
    refine x_aload_n hc 1 dX7_order_113 rfl rfl ?_
    refine x_getI (T := TX4) (p0 := p3) hc in_X4 rfl (by decide) (kdb k4) 1 (by decide) tw_220 rfl rfl dX7_order_114 ?_
    refine x_icmp_ge (tgt := 141) hc dX7_order_117 rfl (fun c_117 => ?_) (fun c_117 => ?_)
    · replace hf := if_p hf c_117
      cases hf
      exact x_sub [0] hk rfl
    · replace hf := if_n hf c_117
      refine x_aload_n hc 1 dX7_order_120 rfl rfl ?_
      refine x_iload hc 2 dX7_order_121 rfl ?_
      refine x_aload_n hc 0 dX7_order_123 rfl rfl ?_
      refine x_getR (T := TX7) (p0 := 0) hc in_X7 rfl (by decide) (rfl : kd 0 = 7) 11 (by decide) tw_251 rfl rfl dX7_order_124 ?_
      refine x_iload hc 2 dX7_order_127 rfl ?_
      obtain ⟨x28, r29, hf⟩ := bj1_ok hf
      refine x_callVr (As := [.int v25]) (p0 := 45) (v := (.int x28)) (T := TX1) hc (c_X1_bestAt (kl K) (kV K) v25 G26 x28 r29) mw_X1_bestAt tw_894 (sh_X7_fire (rfl : kd 0 = 7)) (by decide) rfl rfl (Nat.le_of_ble_eq_true rfl) ⟨Nat.le_of_ble_eq_true rfl, Nat.le_of_ble_eq_true rfl⟩ dX7_order_129 rfl ?_
      obtain ⟨G30, r31, hf⟩ := bj1_ok hf
      refine x_callVv (As := [.int v25, .int x28]) (p0 := p3) (T := TX4) hc (c_X4_set (kl K) (kV K) p3 v25 x28 G26 G30 r31) mw_X4_set tw_515 (kdb k4) (by decide) rfl rfl (Nat.le_of_ble_eq_true rfl) ⟨Nat.le_of_ble_eq_true rfl, Nat.le_of_ble_eq_true rfl⟩ dX7_order_132 rfl ?_
      refine x_iinc (v := v25 + 1) (L' := [(0, .ref (kad K 0)), (3, .ref (kad K p3)), (4, .int (v25 + 1))]) hc 2 [1, 2, 0] dX7_order_135 rfl rfl (by decide) rfl ?_
      refine x_goto (tgt := 111) hc dX7_order_138 rfl ?_
      exact x_sub [0, 1, 2] (ih _ _ _ hf hk) rfl
set_option maxHeartbeats 4000000 in
set_option maxRecDepth 100000 in
theorem c_X7_order_l25_8 {K : CT} (a1 : Int32) (p3 : Nat) (G : G_) (r : Int32) (G' : G_) (hc : Ok K cX7_order RX7 (Cond.code yX7_order cX7_order 5 (some .int) :: TB) (some .int) 6 146 5) (k4 : (kd p3 == 4) = true) : ∀ (n8 : Nat) (v7 : Int32), f_X7_order_l25_8 a1 p3 G n8 v7 = some (r, G') → Rets K (some (.int r)) G' → X K 25 [(0, .ref (kad K 0)), (1, .int a1), (3, .ref (kad K p3)), (4, .int v7)] [] G := by
  intro n8
  induction n8 with
  | zero =>
    intro v7 hf ho
    cases hf
  | succ n8 ih =>
    intro v7 hf ho
    unfold f_X7_order_l25_8 at hf
    refine x_iload hc 3 dX7_order_25 rfl ?_
    refine x_iconst (v := 4) hc rfl dX7_order_27 ?_
    refine x_icmp_ge (tgt := 61) hc dX7_order_28 rfl (fun c_28 => ?_) (fun c_28 => ?_)
    · replace hf := if_p hf c_28
      refine x_iconst (v := 0) hc rfl dX7_order_61 ?_
      refine x_istore (L' := [(0, .ref (kad K 0)), (1, .int a1), (3, .ref (kad K p3)), (4, .int 0)]) hc [1, 2, 3, 0] dX7_order_62 (by decide) rfl ?_
      obtain ⟨G18, hl_64, hf⟩ := bj1_ok hf
      have he_92_n11 : X K 92 [(0, .ref (kad K 0)), (1, .int a1), (3, .ref (kad K p3))] [] G18 := by
        clear hl_64
        refine x_aload_n hc 0 dX7_order_92 rfl rfl ?_
        refine x_getR (T := TX7) (p0 := 0) hc in_X7 rfl (by decide) (rfl : kd 0 = 7) 11 (by decide) tw_251 rfl rfl dX7_order_93 ?_
        refine x_iload_n hc 1 dX7_order_96 rfl rfl ?_
        obtain ⟨G19, r20, hf⟩ := bj1_ok hf
        refine x_callVv (As := [.int a1]) (p0 := 45) (T := TX1) hc (c_X1_findBest (kl K) (kV K) a1 G18 G19 r20) mw_X1_findBest tw_871 (sh_X7_fire (rfl : kd 0 = 7)) (by decide) rfl rfl (Nat.le_of_ble_eq_true rfl) ⟨Nat.le_of_ble_eq_true rfl, Nat.le_of_ble_eq_true rfl⟩ dX7_order_97 rfl ?_
        refine x_aload_n hc 2 dX7_order_100 rfl rfl ?_
        refine x_iload_n hc 1 dX7_order_101 rfl rfl ?_
        obtain ⟨x21, r22, hf⟩ := bj1_ok hf
        refine x_callSr (As := [.int a1]) (v := (.int x21)) hc (c_J6_bitCount_0f7a4 (kl K) (kV K) a1 G19 x21 r22) mw_J6_bitCount_0f7a4 tw_893 rfl (Nat.le_of_ble_eq_true rfl) ⟨Nat.le_of_ble_eq_true rfl, Nat.le_of_ble_eq_true rfl⟩ dX7_order_102 rfl ?_
        obtain ⟨G23, r24, hf⟩ := bj1_ok hf
        refine x_callVv (As := [.int x21]) (p0 := p3) (T := TX4) hc (c_X4_begin (kl K) (kV K) p3 x21 G19 G23 r24) mw_X4_begin tw_505 (kdb k4) (by decide) rfl rfl (Nat.le_of_ble_eq_true rfl) ⟨Nat.le_of_ble_eq_true rfl, Nat.le_of_ble_eq_true rfl⟩ dX7_order_105 rfl ?_
        refine x_iconst (v := 0) hc rfl dX7_order_108 ?_
        refine x_istore (L' := [(0, .ref (kad K 0)), (3, .ref (kad K p3)), (4, .int 0)]) hc [1, 3, 0] dX7_order_109 (by decide) rfl ?_
        obtain ⟨G32, hl_111, hf⟩ := bj1_ok hf
        have he_141_n27 : X K 141 [(0, .ref (kad K 0))] [] G32 := by
          clear hl_111
          refine x_aload_n hc 0 dX7_order_141 rfl rfl ?_
          refine x_getR (T := TX7) (p0 := 0) hc in_X7 rfl (by decide) (rfl : kd 0 = 7) 11 (by decide) tw_251 rfl rfl dX7_order_142 ?_
          refine x_getI (T := TX1) (p0 := 45) hc in_X1 rfl (by decide) (sh_X7_fire (rfl : kd 0 = 7)) 2 (by decide) tw_205 rfl rfl dX7_order_145 ?_
          cases hf
          exact x_iret hc rfl ho dX7_order_148
        exact x_sub [0, 1, 2] (c_X7_order_l111_27 p3 hc k4 FU 0 G23 G32 hl_111 he_141_n27) rfl
      exact x_sub [0, 1, 2, 3] (c_X7_order_l64_11 a1 p3 hc  FU 0 G G18 hl_64 he_92_n11) rfl
    · replace hf := if_n hf c_28
      refine x_iload hc 3 dX7_order_31 rfl ?_
      refine x_iload_n hc 1 dX7_order_33 rfl rfl ?_
      obtain ⟨x33, r34, hf⟩ := bj1_ok hf
      refine x_callSr (As := [.int v7, .int a1]) (v := (.int x33)) hc (c_X7_isIn (kl K) (kV K) v7 a1 G x33 r34) mw_X7_isIn tw_851 rfl (Nat.le_of_ble_eq_true rfl) ⟨Nat.le_of_ble_eq_true rfl, Nat.le_of_ble_eq_true rfl⟩ dX7_order_34 rfl ?_
      refine x_if_eq (tgt := 55) hc dX7_order_37 rfl (fun c_37 => ?_) (fun c_37 => ?_)
      · replace hf := if_p hf c_37
        refine x_iinc (v := v7 + 1) (L' := [(0, .ref (kad K 0)), (1, .int a1), (3, .ref (kad K p3)), (4, .int (v7 + 1))]) hc 3 [1, 2, 3, 0] dX7_order_55 rfl rfl (by decide) rfl ?_
        refine x_goto (tgt := 25) hc dX7_order_58 rfl ?_
        exact x_sub [0, 1, 2, 3] (ih _ hf ho) rfl
      · replace hf := if_n hf c_37
        refine x_aload_n hc 0 dX7_order_40 rfl rfl ?_
        refine x_iload hc 3 dX7_order_41 rfl ?_
        obtain ⟨x41, r42, hf⟩ := bj1_ok hf
        refine x_callVr (As := [.int v7]) (p0 := 0) (v := (.int x41)) (T := TX7) hc (c_X7_hasBoth (kl K) (kV K) v7 G x41 r42) mw_X7_hasBoth tw_854 (rfl : kd 0 = 7) (by decide) rfl rfl (Nat.le_of_ble_eq_true rfl) ⟨Nat.le_of_ble_eq_true rfl, Nat.le_of_ble_eq_true rfl⟩ dX7_order_43 rfl ?_
        refine x_if_ne (tgt := 55) hc dX7_order_46 rfl (fun c_46 => ?_) (fun c_46 => ?_)
        · replace hf := if_n hf c_46
          refine x_iinc (v := v7 + 1) (L' := [(0, .ref (kad K 0)), (1, .int a1), (3, .ref (kad K p3)), (4, .int (v7 + 1))]) hc 3 [1, 2, 3, 0] dX7_order_55 rfl rfl (by decide) rfl ?_
          refine x_goto (tgt := 25) hc dX7_order_58 rfl ?_
          exact x_sub [0, 1, 2, 3] (ih _ hf ho) rfl
        · replace hf := if_p hf c_46
          refine x_aload_n hc 0 dX7_order_49 rfl rfl ?_
          refine x_iconst (v := 1) hc rfl dX7_order_50 ?_
          obtain ⟨x44, G43, r45, hf⟩ := bj2_ok hf
          refine x_callVr (As := [.int 1]) (p0 := 0) (v := (.int x44)) (T := TX7) hc (c_X7_found (kl K) (kV K) 1 G x44 G43 r45) mw_X7_found tw_314 (rfl : kd 0 = 7) (by decide) rfl rfl (Nat.le_of_ble_eq_true rfl) ⟨Nat.le_of_ble_eq_true rfl, Nat.le_of_ble_eq_true rfl⟩ dX7_order_51 rfl ?_
          cases hf
          exact x_iret hc rfl ho dX7_order_54
set_option maxHeartbeats 4000000 in
set_option maxRecDepth 100000 in
theorem c_X7_order (l : Launch) (V : VT) (a1 : Int32) (a2 : Int32) (G : G_) (r : Int32) (G' : G_) (hf : f_X7_order a1 a2 G = some (r, G')) : MC l V yX7_order cX7_order 5 (some .int) 6 146 [.ref (V.2.2.1 0), .int a1, .int a2] G (some (.int r)) G' := by
  refine mc_of (by decide) (Nat.le_of_ble_eq_true rfl) (fun K hV ho hc hkl => ?_)
  subst hV
  replace hc : Ok K cX7_order RX7 (Cond.code yX7_order cX7_order 5 (some .int) :: TB) (some .int) 6 146 5 := hc
  replace ho : Rets K (some (.int r)) G' := ho
  show X K 0 [(0, .ref (kad K 0)), (1, .int a1), (2, .int a2)] [] G
  unfold f_X7_order at hf
  refine x_aload_n hc 0 dX7_order_0 rfl rfl ?_
  refine x_iload_n hc 2 dX7_order_1 rfl rfl ?_
  obtain ⟨o1, r2, hf⟩ := bj1_ok hf
  refine x_callVr (As := [.int a2]) (p0 := 0) (v := (rfo K o1)) (T := TX7) hc (c_X7_rowAt (kl K) (kV K) a2 G o1 r2) mw_X7_rowAt tw_501 (rfl : kd 0 = 7) (by decide) rfl rfl (Nat.le_of_ble_eq_true rfl) ⟨Nat.le_of_ble_eq_true rfl, Nat.le_of_ble_eq_true rfl⟩ dX7_order_2 rfl ?_
  refine x_astore_nO (L' := [(0, .ref (kad K 0)), (1, .int a1), (3, rfo K o1)]) hc [1, 2, 0] dX7_order_5 rfl (by decide) rfl ?_
  refine x_aload_nO hc 2 dX7_order_6 rfl rfl ?_
  cases o1 with
  | none =>
    replace hf := mo_n hf
    show X K 7 [(0, .ref (kad K 0)), (1, .int a1), (3, .null)] [.null] G
    refine x_ifnullN (tgt := 20) hc dX7_order_7 rfl ?_
    refine x_iconst (v := (-1)) hc rfl dX7_order_20 ?_
    cases hf
    exact x_iret hc rfl ho dX7_order_21
  | some p3 =>
    replace hf := mo_s hf
    obtain ⟨k4, hf⟩ := chk_ok hf
    show X K 7 [(0, .ref (kad K 0)), (1, .int a1), (3, .ref (kad K p3))] [.ref (kad K p3)] G
    refine x_ifnullR hc dX7_order_7 ?_
    refine x_iload_n hc 1 dX7_order_10 rfl rfl ?_
    refine x_iconst (v := 1) hc rfl dX7_order_11 ?_
    refine x_bipush (v := 15) hc rfl dX7_order_12 ?_
    obtain ⟨x5, r6, hf⟩ := bj1_ok hf
    refine x_callSr (As := [.int a1, .int 1, .int 15]) (v := (.int x5)) hc (c_X7_within (kl K) (kV K) a1 1 15 G x5 r6) mw_X7_within tw_401 rfl (Nat.le_of_ble_eq_true rfl) ⟨Nat.le_of_ble_eq_true rfl, Nat.le_of_ble_eq_true rfl⟩ dX7_order_14 rfl ?_
    refine x_if_ne (tgt := 22) hc dX7_order_17 rfl (fun c_17 => ?_) (fun c_17 => ?_)
    · replace hf := if_n hf c_17
      refine x_iconst (v := 0) hc rfl dX7_order_22 ?_
      refine x_istore (L' := [(0, .ref (kad K 0)), (1, .int a1), (3, .ref (kad K p3)), (4, .int 0)]) hc [1, 2, 3, 0] dX7_order_23 (by decide) rfl ?_
      exact x_sub [0, 1, 2, 3] (c_X7_order_l25_8 a1 p3 G r G' hc k4 FU 0 hf ho) rfl
    · replace hf := if_p hf c_17
      refine x_iconst (v := (-1)) hc rfl dX7_order_20 ?_
      cases hf
      exact x_iret hc rfl ho dX7_order_21
def f_X7_which_l37_11 (x8 : Int32) (G7 : G_) : Nat → Int32 → Option (Int32 × G_)
  | 0, _ => none
  | n11 + 1, v10 =>
    if x8 < 0 then (
      some ((-9), G7))
    else (
      if 16 ≤ v10 then (
        some ((-9), G7))
      else (
        chk (inb v10 16) <|
        if G7.1 48 (ix v10) = x8 then (
          bj2 (f_X7_told ((10 * (v10 / 4)) + (v10 - v10 / 4 * 4)) x8 G7) fun x14 G13 =>
          some (x14, G13))
        else (
          f_X7_which_l37_11 x8 G7 n11 (v10 + 1))))
def f_X7_which (a1 : Int32) (G : G_) : Option (Int32 × G_) :=
  bj1 (f_X7_rowAt a1 G) fun o1 =>
  mo o1 (
    some ((-1), G)) (fun p3 =>
    chk (kd p3 == 4) <|
    bj1 (f_X7_wrongSlice p3 G) fun x5 =>
    if x5 = 0 then (
      bj2 (f_X7_leastUnlike p3 G) fun x8 G7 =>
      f_X7_which_l37_11 x8 G7 FU 0)
    else (
      bj2 (f_X7_found x5 G) fun x17 G16 =>
      some (x17, G16)))
set_option maxHeartbeats 4000000 in
set_option maxRecDepth 100000 in
theorem c_X7_which_l37_11 {K : CT} (x8 : Int32) (G7 : G_) (r : Int32) (G' : G_) (hc : Ok K cX7_which RX7 (Cond.code yX7_which cX7_which 6 (some .int) :: TB) (some .int) 6 142 6)  : ∀ (n11 : Nat) (v10 : Int32), f_X7_which_l37_11 x8 G7 n11 v10 = some (r, G') → Rets K (some (.int r)) G' → X K 37 [(0, .ref (kad K 0)), (4, .int x8), (5, .int v10)] [] G7 := by
  intro n11
  induction n11 with
  | zero =>
    intro v10 hf ho
    cases hf
  | succ n11 ih =>
    intro v10 hf ho
    unfold f_X7_which_l37_11 at hf
    refine x_iload hc 1 dX7_which_37 rfl ?_
    refine x_if_lt (tgt := 89) hc dX7_which_39 rfl (fun c_39 => ?_) (fun c_39 => ?_)
    · replace hf := if_p hf c_39
      refine x_bipush (v := (-9)) hc rfl dX7_which_89 ?_
      cases hf
      exact x_iret hc rfl ho dX7_which_91
    · replace hf := if_n hf c_39
      refine x_iload hc 2 dX7_which_42 rfl ?_
      refine x_aload_n hc 0 dX7_which_44 rfl rfl ?_
      refine x_getR (T := TX7) (p0 := 0) hc in_X7 rfl (by decide) (rfl : kd 0 = 7) 12 (by decide) tw_252 rfl rfl dX7_which_45 ?_
      refine x_alenI (p0 := 48) (v := 16) hc (sh_X7_unlike (rfl : kd 0 = 7)).1 (by decide) (by decide) (sh_X7_unlike (rfl : kd 0 = 7)).2 rfl dX7_which_48 ?_
      refine x_icmp_ge (tgt := 89) hc dX7_which_49 rfl (fun c_49 => ?_) (fun c_49 => ?_)
      · replace hf := if_p hf c_49
        refine x_bipush (v := (-9)) hc rfl dX7_which_89 ?_
        cases hf
        exact x_iret hc rfl ho dX7_which_91
      · replace hf := if_n hf c_49
        refine x_aload_n hc 0 dX7_which_52 rfl rfl ?_
        refine x_getR (T := TX7) (p0 := 0) hc in_X7 rfl (by decide) (rfl : kd 0 = 7) 12 (by decide) tw_252 rfl rfl dX7_which_53 ?_
        refine x_iload hc 2 dX7_which_56 rfl ?_
        obtain ⟨h12, hf⟩ := chk_ok hf
        refine x_iaload (p0 := 48) hc (sh_X7_unlike (rfl : kd 0 = 7)).1 (sh_X7_unlike (rfl : kd 0 = 7)).2 h12 dX7_which_58 ?_
        refine x_iload hc 1 dX7_which_59 rfl ?_
        refine x_icmp_ne (tgt := 83) hc dX7_which_61 rfl (fun c_61 => ?_) (fun c_61 => ?_)
        · replace hf := if_n hf c_61
          refine x_iinc (v := v10 + 1) (L' := [(0, .ref (kad K 0)), (4, .int x8), (5, .int (v10 + 1))]) hc 2 [1, 2, 0] dX7_which_83 rfl rfl (by decide) rfl ?_
          refine x_goto (tgt := 37) hc dX7_which_86 rfl ?_
          exact x_sub [0, 1, 2] (ih _ hf ho) rfl
        · replace hf := if_p hf c_61
          refine x_aload_n hc 0 dX7_which_64 rfl rfl ?_
          refine x_bipush (v := 10) hc rfl dX7_which_65 ?_
          refine x_iload hc 2 dX7_which_67 rfl ?_
          refine x_iconst (v := 4) hc rfl dX7_which_69 ?_
          refine x_idiv hc (by decide) dX7_which_70 ?_
          refine x_imul hc dX7_which_71 ?_
          refine x_iload hc 2 dX7_which_72 rfl ?_
          refine x_iconst (v := 4) hc rfl dX7_which_74 ?_
          refine x_irem hc (by decide) dX7_which_75 ?_
          refine x_iadd hc dX7_which_76 ?_
          refine x_iload hc 1 dX7_which_77 rfl ?_
          obtain ⟨x14, G13, r15, hf⟩ := bj2_ok hf
          refine x_callVr (As := [.int ((10 * (v10 / 4)) + (v10 - v10 / 4 * 4)), .int x8]) (p0 := 0) (v := (.int x14)) (T := TX7) hc (c_X7_told (kl K) (kV K) ((10 * (v10 / 4)) + (v10 - v10 / 4 * 4)) x8 G7 x14 G13 r15) mw_X7_told tw_457 (rfl : kd 0 = 7) (by decide) rfl rfl (Nat.le_of_ble_eq_true rfl) ⟨Nat.le_of_ble_eq_true rfl, Nat.le_of_ble_eq_true rfl⟩ dX7_which_79 rfl ?_
          cases hf
          exact x_iret hc rfl ho dX7_which_82
set_option maxHeartbeats 4000000 in
set_option maxRecDepth 100000 in
theorem c_X7_which (l : Launch) (V : VT) (a1 : Int32) (G : G_) (r : Int32) (G' : G_) (hf : f_X7_which a1 G = some (r, G')) : MC l V yX7_which cX7_which 6 (some .int) 6 142 [.ref (V.2.2.1 0), .int a1] G (some (.int r)) G' := by
  refine mc_of (by decide) (Nat.le_of_ble_eq_true rfl) (fun K hV ho hc hkl => ?_)
  subst hV
  replace hc : Ok K cX7_which RX7 (Cond.code yX7_which cX7_which 6 (some .int) :: TB) (some .int) 6 142 6 := hc
  replace ho : Rets K (some (.int r)) G' := ho
  show X K 0 [(0, .ref (kad K 0)), (1, .int a1)] [] G
  unfold f_X7_which at hf
  refine x_aload_n hc 0 dX7_which_0 rfl rfl ?_
  refine x_iload_n hc 1 dX7_which_1 rfl rfl ?_
  obtain ⟨o1, r2, hf⟩ := bj1_ok hf
  refine x_callVr (As := [.int a1]) (p0 := 0) (v := (rfo K o1)) (T := TX7) hc (c_X7_rowAt (kl K) (kV K) a1 G o1 r2) mw_X7_rowAt tw_501 (rfl : kd 0 = 7) (by decide) rfl rfl (Nat.le_of_ble_eq_true rfl) ⟨Nat.le_of_ble_eq_true rfl, Nat.le_of_ble_eq_true rfl⟩ dX7_which_2 rfl ?_
  refine x_astore_nO (L' := [(0, .ref (kad K 0)), (2, rfo K o1)]) hc [1, 0] dX7_which_5 rfl (by decide) rfl ?_
  refine x_aload_nO hc 1 dX7_which_6 rfl rfl ?_
  cases o1 with
  | none =>
    replace hf := mo_n hf
    show X K 7 [(0, .ref (kad K 0)), (2, .null)] [.null] G
    refine x_ifnonnullN hc dX7_which_7 ?_
    refine x_iconst (v := (-1)) hc rfl dX7_which_10 ?_
    cases hf
    exact x_iret hc rfl ho dX7_which_11
  | some p3 =>
    replace hf := mo_s hf
    obtain ⟨k4, hf⟩ := chk_ok hf
    show X K 7 [(0, .ref (kad K 0)), (2, .ref (kad K p3))] [.ref (kad K p3)] G
    refine x_ifnonnullR (tgt := 12) hc dX7_which_7 rfl ?_
    refine x_aload_n hc 1 dX7_which_12 rfl rfl ?_
    obtain ⟨x5, r6, hf⟩ := bj1_ok hf
    refine x_callSr (As := [.ref (kad K p3)]) (v := (.int x5)) hc (c_X7_wrongSlice (kl K) (kV K) p3 G x5 r6) mw_X7_wrongSlice tw_572 rfl (Nat.le_of_ble_eq_true rfl) ⟨Nat.le_of_ble_eq_true rfl, Nat.le_of_ble_eq_true rfl⟩ dX7_which_13 rfl ?_
    refine x_istore_n (L' := [(0, .ref (kad K 0)), (2, .ref (kad K p3)), (3, .int x5)]) hc [1, 2, 0] dX7_which_16 rfl (by decide) rfl ?_
    refine x_iload_n hc 2 dX7_which_17 rfl rfl ?_
    refine x_if_eq (tgt := 27) hc dX7_which_18 rfl (fun c_18 => ?_) (fun c_18 => ?_)
    · replace hf := if_p hf c_18
      refine x_aload_n hc 0 dX7_which_27 rfl rfl ?_
      refine x_aload_n hc 1 dX7_which_28 rfl rfl ?_
      obtain ⟨x8, G7, r9, hf⟩ := bj2_ok hf
      refine x_callVr (As := [.ref (kad K p3)]) (p0 := 0) (v := (.int x8)) (T := TX7) hc (c_X7_leastUnlike (kl K) (kV K) p3 G x8 G7 r9) mw_X7_leastUnlike tw_583 (rfl : kd 0 = 7) (by decide) rfl rfl (Nat.le_of_ble_eq_true rfl) ⟨Nat.le_of_ble_eq_true rfl, Nat.le_of_ble_eq_true rfl⟩ dX7_which_29 rfl ?_
      refine x_istore (L' := [(0, .ref (kad K 0)), (4, .int x8)]) hc [1, 0] dX7_which_32 (by decide) rfl ?_
      refine x_iconst (v := 0) hc rfl dX7_which_34 ?_
      refine x_istore (L' := [(0, .ref (kad K 0)), (4, .int x8), (5, .int 0)]) hc [1, 2, 0] dX7_which_35 (by decide) rfl ?_
      exact x_sub [0, 1, 2] (c_X7_which_l37_11 x8 G7 r G' hc  FU 0 hf ho) rfl
    · replace hf := if_n hf c_18
      refine x_aload_n hc 0 dX7_which_21 rfl rfl ?_
      refine x_iload_n hc 2 dX7_which_22 rfl rfl ?_
      obtain ⟨x17, G16, r18, hf⟩ := bj2_ok hf
      refine x_callVr (As := [.int x5]) (p0 := 0) (v := (.int x17)) (T := TX7) hc (c_X7_found (kl K) (kV K) x5 G x17 G16 r18) mw_X7_found tw_314 (rfl : kd 0 = 7) (by decide) rfl rfl (Nat.le_of_ble_eq_true rfl) ⟨Nat.le_of_ble_eq_true rfl, Nat.le_of_ble_eq_true rfl⟩ dX7_which_23 rfl ?_
      cases hf
      exact x_iret hc rfl ho dX7_which_26
def f_X7_odds_l66_15 (a2 : Int32) (x10 : Int32) (G9 : G_) : Nat → Int32 → Int32 → Int32 → Option (Int32 × Int32)
  | 0, _, _, _ => none
  | n15 + 1, v12, v13, v14 =>
    if 16 ≤ v14 then (
      some (v12, v13))
    else (
      chk (inb v14 16) <|
      if G9.1 48 (ix v14) = x10 then (
        bj1 (
          if v14 - v14 / 4 * 4 = a2 then (
            some (1))
          else (
            some (0))) fun (x21 : Int32) =>
        f_X7_odds_l66_15 a2 x10 G9 n15 (v12 + 1) (v13 + x21) (v14 + 1))
      else (
        f_X7_odds_l66_15 a2 x10 G9 n15 v12 v13 (v14 + 1)))
def f_X7_odds (a1 : Int32) (a2 : Int32) (G : G_) : Option (Int32 × G_) :=
  bj1 (f_X7_rowAt a1 G) fun o1 =>
  mo o1 (
    some ((-1), G)) (fun p3 =>
    chk (kd p3 == 4) <|
    bj1 (f_X7_within a2 0 3) fun x5 =>
    if x5 = 0 then (
      some ((-1), G))
    else (
      bj1 (f_X7_wrongSlice p3 G) fun x7 =>
      if x7 = 0 then (
        bj2 (f_X7_leastUnlike p3 G) fun x10 G9 =>
        if 0 ≤ x10 then (
          bj2 (f_X7_odds_l66_15 a2 x10 G9 FU 0 0 0) fun x22 x23 =>
          bj1 (f_X7_tellFraction x23 x22 G9) fun G24 =>
          some (x22, G24))
        else (
          bj2 (f_X7_found 4 G9) fun x27 G26 =>
          some (x27, G26)))
      else (
        bj2 (f_X7_found x7 G) fun x30 G29 =>
        some (x30, G29))))
set_option maxHeartbeats 4000000 in
set_option maxRecDepth 100000 in
theorem c_X7_odds_l66_15 {K : CT} (a2 : Int32) (x10 : Int32) (G9 : G_) (hc : Ok K cX7_odds RX7 (Cond.code yX7_odds cX7_odds 9 (some .int) :: TB) (some .int) 6 142 9)  : ∀ (n15 : Nat) (v12 : Int32) (v13 : Int32) (v14 : Int32) (x22 : Int32) (x23 : Int32), f_X7_odds_l66_15 a2 x10 G9 n15 v12 v13 v14 = some (x22, x23) → X K 115 [(0, .ref (kad K 0)), (6, .int x22), (7, .int x23)] [] G9 → X K 66 [(0, .ref (kad K 0)), (2, .int a2), (5, .int x10), (6, .int v12), (7, .int v13), (8, .int v14)] [] G9 := by
  intro n15
  induction n15 with
  | zero =>
    intro v12 v13 v14 x22 x23 hf hk
    cases hf
  | succ n15 ih =>
    intro v12 v13 v14 x22 x23 hf hk
    unfold f_X7_odds_l66_15 at hf
    refine x_iload hc 5 dX7_odds_66 rfl ?_
    refine x_aload_n hc 0 dX7_odds_68 rfl rfl ?_
    refine x_getR (T := TX7) (p0 := 0) hc in_X7 rfl (by decide) (rfl : kd 0 = 7) 12 (by decide) tw_252 rfl rfl dX7_odds_69 ?_
    refine x_alenI (p0 := 48) (v := 16) hc (sh_X7_unlike (rfl : kd 0 = 7)).1 (by decide) (by decide) (sh_X7_unlike (rfl : kd 0 = 7)).2 rfl dX7_odds_72 ?_
    refine x_icmp_ge (tgt := 115) hc dX7_odds_73 rfl (fun c_73 => ?_) (fun c_73 => ?_)
    · replace hf := if_p hf c_73
      cases hf
      exact x_sub [0, 3, 4] hk rfl
    · replace hf := if_n hf c_73
      refine x_aload_n hc 0 dX7_odds_76 rfl rfl ?_
      refine x_getR (T := TX7) (p0 := 0) hc in_X7 rfl (by decide) (rfl : kd 0 = 7) 12 (by decide) tw_252 rfl rfl dX7_odds_77 ?_
      refine x_iload hc 5 dX7_odds_80 rfl ?_
      obtain ⟨h16, hf⟩ := chk_ok hf
      refine x_iaload (p0 := 48) hc (sh_X7_unlike (rfl : kd 0 = 7)).1 (sh_X7_unlike (rfl : kd 0 = 7)).2 h16 dX7_odds_82 ?_
      refine x_iload hc 2 dX7_odds_83 rfl ?_
      refine x_icmp_ne (tgt := 109) hc dX7_odds_85 rfl (fun c_85 => ?_) (fun c_85 => ?_)
      · replace hf := if_n hf c_85
        refine x_iinc (v := v14 + 1) (L' := [(0, .ref (kad K 0)), (2, .int a2), (5, .int x10), (6, .int v12), (7, .int v13), (8, .int (v14 + 1))]) hc 5 [1, 2, 3, 4, 5, 0] dX7_odds_109 rfl rfl (by decide) rfl ?_
        refine x_goto (tgt := 66) hc dX7_odds_112 rfl ?_
        exact x_sub [0, 1, 2, 3, 4, 5] (ih _ _ _ _ _ hf hk) rfl
      · replace hf := if_p hf c_85
        refine x_iinc (v := v12 + 1) (L' := [(0, .ref (kad K 0)), (2, .int a2), (5, .int x10), (6, .int (v12 + 1)), (7, .int v13), (8, .int v14)]) hc 3 [1, 2, 3, 0, 4, 5] dX7_odds_88 rfl rfl (by decide) rfl ?_
        refine x_iload hc 4 dX7_odds_91 rfl ?_
        refine x_iload hc 5 dX7_odds_93 rfl ?_
        refine x_iconst (v := 4) hc rfl dX7_odds_95 ?_
        refine x_irem hc (by decide) dX7_odds_96 ?_
        refine x_iload_n hc 1 dX7_odds_97 rfl rfl ?_
        obtain ⟨x21, hr, hf⟩ := bj1_ok hf
        have hj_106_20 : X K 106 [(0, .ref (kad K 0)), (2, .int a2), (5, .int x10), (6, .int (v12 + 1)), (8, .int v14)] [.int x21, .int v13] G9 := by
          clear hr
          refine x_iadd hc dX7_odds_106 ?_
          refine x_istore (L' := [(0, .ref (kad K 0)), (2, .int a2), (5, .int x10), (6, .int (v12 + 1)), (7, .int (v13 + x21)), (8, .int v14)]) hc [1, 2, 3, 4, 0, 5] dX7_odds_107 (by decide) rfl ?_
          refine x_iinc (v := v14 + 1) (L' := [(0, .ref (kad K 0)), (2, .int a2), (5, .int x10), (6, .int (v12 + 1)), (7, .int (v13 + x21)), (8, .int (v14 + 1))]) hc 5 [1, 2, 3, 4, 5, 0] dX7_odds_109 rfl rfl (by decide) rfl ?_
          refine x_goto (tgt := 66) hc dX7_odds_112 rfl ?_
          exact x_sub [0, 1, 2, 3, 4, 5] (ih _ _ _ _ _ hf hk) rfl
        replace hf := hr
        clear hr
        refine x_icmp_ne (tgt := 105) hc dX7_odds_98 rfl (fun c_98 => ?_) (fun c_98 => ?_)
        · replace hf := if_n hf c_98
          refine x_iconst (v := 0) hc rfl dX7_odds_105 ?_
          cases hf
          exact x_sub [0, 1, 2, 3, 5] hj_106_20 rfl
        · replace hf := if_p hf c_98
          refine x_iconst (v := 1) hc rfl dX7_odds_101 ?_
          refine x_goto (tgt := 106) hc dX7_odds_102 rfl ?_
          cases hf
          exact x_sub [0, 1, 2, 3, 5] hj_106_20 rfl
set_option maxHeartbeats 4000000 in
set_option maxRecDepth 100000 in
theorem c_X7_odds (l : Launch) (V : VT) (a1 : Int32) (a2 : Int32) (G : G_) (r : Int32) (G' : G_) (hf : f_X7_odds a1 a2 G = some (r, G')) : MC l V yX7_odds cX7_odds 9 (some .int) 6 142 [.ref (V.2.2.1 0), .int a1, .int a2] G (some (.int r)) G' := by
  refine mc_of (by decide) (Nat.le_of_ble_eq_true rfl) (fun K hV ho hc hkl => ?_)
  subst hV
  replace hc : Ok K cX7_odds RX7 (Cond.code yX7_odds cX7_odds 9 (some .int) :: TB) (some .int) 6 142 9 := hc
  replace ho : Rets K (some (.int r)) G' := ho
  show X K 0 [(0, .ref (kad K 0)), (1, .int a1), (2, .int a2)] [] G
  unfold f_X7_odds at hf
  refine x_aload_n hc 0 dX7_odds_0 rfl rfl ?_
  refine x_iload_n hc 1 dX7_odds_1 rfl rfl ?_
  obtain ⟨o1, r2, hf⟩ := bj1_ok hf
  refine x_callVr (As := [.int a1]) (p0 := 0) (v := (rfo K o1)) (T := TX7) hc (c_X7_rowAt (kl K) (kV K) a1 G o1 r2) mw_X7_rowAt tw_501 (rfl : kd 0 = 7) (by decide) rfl rfl (Nat.le_of_ble_eq_true rfl) ⟨Nat.le_of_ble_eq_true rfl, Nat.le_of_ble_eq_true rfl⟩ dX7_odds_2 rfl ?_
  refine x_astore_nO (L' := [(0, .ref (kad K 0)), (2, .int a2), (3, rfo K o1)]) hc [1, 3, 0] dX7_odds_5 rfl (by decide) rfl ?_
  refine x_aload_nO hc 2 dX7_odds_6 rfl rfl ?_
  cases o1 with
  | none =>
    replace hf := mo_n hf
    show X K 7 [(0, .ref (kad K 0)), (2, .int a2), (3, .null)] [.null] G
    refine x_ifnullN (tgt := 19) hc dX7_odds_7 rfl ?_
    refine x_iconst (v := (-1)) hc rfl dX7_odds_19 ?_
    cases hf
    exact x_iret hc rfl ho dX7_odds_20
  | some p3 =>
    replace hf := mo_s hf
    obtain ⟨k4, hf⟩ := chk_ok hf
    show X K 7 [(0, .ref (kad K 0)), (2, .int a2), (3, .ref (kad K p3))] [.ref (kad K p3)] G
    refine x_ifnullR hc dX7_odds_7 ?_
    refine x_iload_n hc 1 dX7_odds_10 rfl rfl ?_
    refine x_iconst (v := 0) hc rfl dX7_odds_11 ?_
    refine x_iconst (v := 3) hc rfl dX7_odds_12 ?_
    obtain ⟨x5, r6, hf⟩ := bj1_ok hf
    refine x_callSr (As := [.int a2, .int 0, .int 3]) (v := (.int x5)) hc (c_X7_within (kl K) (kV K) a2 0 3 G x5 r6) mw_X7_within tw_401 rfl (Nat.le_of_ble_eq_true rfl) ⟨Nat.le_of_ble_eq_true rfl, Nat.le_of_ble_eq_true rfl⟩ dX7_odds_13 rfl ?_
    refine x_if_ne (tgt := 21) hc dX7_odds_16 rfl (fun c_16 => ?_) (fun c_16 => ?_)
    · replace hf := if_n hf c_16
      refine x_aload_n hc 2 dX7_odds_21 rfl rfl ?_
      obtain ⟨x7, r8, hf⟩ := bj1_ok hf
      refine x_callSr (As := [.ref (kad K p3)]) (v := (.int x7)) hc (c_X7_wrongSlice (kl K) (kV K) p3 G x7 r8) mw_X7_wrongSlice tw_572 rfl (Nat.le_of_ble_eq_true rfl) ⟨Nat.le_of_ble_eq_true rfl, Nat.le_of_ble_eq_true rfl⟩ dX7_odds_22 rfl ?_
      refine x_istore (L' := [(0, .ref (kad K 0)), (2, .int a2), (3, .ref (kad K p3)), (4, .int x7)]) hc [1, 2, 3, 0] dX7_odds_25 (by decide) rfl ?_
      refine x_iload hc 3 dX7_odds_27 rfl ?_
      refine x_if_eq (tgt := 39) hc dX7_odds_29 rfl (fun c_29 => ?_) (fun c_29 => ?_)
      · replace hf := if_p hf c_29
        refine x_aload_n hc 0 dX7_odds_39 rfl rfl ?_
        refine x_aload_n hc 2 dX7_odds_40 rfl rfl ?_
        obtain ⟨x10, G9, r11, hf⟩ := bj2_ok hf
        refine x_callVr (As := [.ref (kad K p3)]) (p0 := 0) (v := (.int x10)) (T := TX7) hc (c_X7_leastUnlike (kl K) (kV K) p3 G x10 G9 r11) mw_X7_leastUnlike tw_583 (rfl : kd 0 = 7) (by decide) rfl rfl (Nat.le_of_ble_eq_true rfl) ⟨Nat.le_of_ble_eq_true rfl, Nat.le_of_ble_eq_true rfl⟩ dX7_odds_41 rfl ?_
        refine x_istore (L' := [(0, .ref (kad K 0)), (2, .int a2), (5, .int x10)]) hc [1, 2, 0] dX7_odds_44 (by decide) rfl ?_
        refine x_iload hc 2 dX7_odds_46 rfl ?_
        refine x_if_ge (tgt := 57) hc dX7_odds_48 rfl (fun c_48 => ?_) (fun c_48 => ?_)
        · replace hf := if_p hf c_48
          refine x_iconst (v := 0) hc rfl dX7_odds_57 ?_
          refine x_istore (L' := [(0, .ref (kad K 0)), (2, .int a2), (5, .int x10), (6, .int 0)]) hc [1, 2, 3, 0] dX7_odds_58 (by decide) rfl ?_
          refine x_iconst (v := 0) hc rfl dX7_odds_60 ?_
          refine x_istore (L' := [(0, .ref (kad K 0)), (2, .int a2), (5, .int x10), (6, .int 0), (7, .int 0)]) hc [1, 2, 3, 4, 0] dX7_odds_61 (by decide) rfl ?_
          refine x_iconst (v := 0) hc rfl dX7_odds_63 ?_
          refine x_istore (L' := [(0, .ref (kad K 0)), (2, .int a2), (5, .int x10), (6, .int 0), (7, .int 0), (8, .int 0)]) hc [1, 2, 3, 4, 5, 0] dX7_odds_64 (by decide) rfl ?_
          obtain ⟨x22, x23, hl_66, hf⟩ := bj2_ok hf
          have he_115_n15 : X K 115 [(0, .ref (kad K 0)), (6, .int x22), (7, .int x23)] [] G9 := by
            clear hl_66
            refine x_aload_n hc 0 dX7_odds_115 rfl rfl ?_
            refine x_iload hc 2 dX7_odds_116 rfl ?_
            refine x_iload hc 1 dX7_odds_118 rfl ?_
            obtain ⟨G24, r25, hf⟩ := bj1_ok hf
            refine x_callVv (As := [.int x23, .int x22]) (p0 := 0) (T := TX7) hc (c_X7_tellFraction (kl K) (kV K) x23 x22 G9 G24 r25) mw_X7_tellFraction tw_598 (rfl : kd 0 = 7) (by decide) rfl rfl (Nat.le_of_ble_eq_true rfl) ⟨Nat.le_of_ble_eq_true rfl, Nat.le_of_ble_eq_true rfl⟩ dX7_odds_120 rfl ?_
            refine x_iload hc 1 dX7_odds_123 rfl ?_
            cases hf
            exact x_iret hc rfl ho dX7_odds_125
          exact x_sub [0, 1, 2, 3, 4, 5] (c_X7_odds_l66_15 a2 x10 G9 hc  FU 0 0 0 x22 x23 hl_66 he_115_n15) rfl
        · replace hf := if_n hf c_48
          refine x_aload_n hc 0 dX7_odds_51 rfl rfl ?_
          refine x_iconst (v := 4) hc rfl dX7_odds_52 ?_
          obtain ⟨x27, G26, r28, hf⟩ := bj2_ok hf
          refine x_callVr (As := [.int 4]) (p0 := 0) (v := (.int x27)) (T := TX7) hc (c_X7_found (kl K) (kV K) 4 G9 x27 G26 r28) mw_X7_found tw_314 (rfl : kd 0 = 7) (by decide) rfl rfl (Nat.le_of_ble_eq_true rfl) ⟨Nat.le_of_ble_eq_true rfl, Nat.le_of_ble_eq_true rfl⟩ dX7_odds_53 rfl ?_
          cases hf
          exact x_iret hc rfl ho dX7_odds_56
      · replace hf := if_n hf c_29
        refine x_aload_n hc 0 dX7_odds_32 rfl rfl ?_
        refine x_iload hc 3 dX7_odds_33 rfl ?_
        obtain ⟨x30, G29, r31, hf⟩ := bj2_ok hf
        refine x_callVr (As := [.int x7]) (p0 := 0) (v := (.int x30)) (T := TX7) hc (c_X7_found (kl K) (kV K) x7 G x30 G29 r31) mw_X7_found tw_314 (rfl : kd 0 = 7) (by decide) rfl rfl (Nat.le_of_ble_eq_true rfl) ⟨Nat.le_of_ble_eq_true rfl, Nat.le_of_ble_eq_true rfl⟩ dX7_odds_35 rfl ?_
        cases hf
        exact x_iret hc rfl ho dX7_odds_38
    · replace hf := if_p hf c_16
      refine x_iconst (v := (-1)) hc rfl dX7_odds_19 ?_
      cases hf
      exact x_iret hc rfl ho dX7_odds_20
